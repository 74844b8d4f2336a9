section
-- ===== PART A: goes FIRST, ahead of the names: the tables' words, and 'selects' of the private methods out of them =====
/-- a private method of a class that the tables say can be made, by its rows of tables_1 -/
def lw_okq (q : MethodName × Nat) : Prop := (q.1.cls ≠ "java/lang/invoke/MethodHandle" ∧ q.1.cls ≠ "java/lang/invoke/VarHandle") ∧ Cond.instantiable q.1.cls q.2 ∈ tables_1 ∧ Cond.privateMethod q.1 ∈ tables_1 ∧ Cond.instanceMethod q.1 ∈ tables_1
theorem lw_p0 : lw_okq (⟨"XmppPair", "arrive", "(LXmppPair$Stanza;)V"⟩, 6) := ⟨⟨by decide +kernel, by decide +kernel⟩, List.mem_of_getElem? (i := 15) (by decide +kernel), List.mem_of_getElem? (i := 166) (by decide +kernel), List.mem_of_getElem? (i := 167) (by decide +kernel)⟩
theorem lw_p1 : lw_okq (⟨"XmppPair", "messageArrives", "(LXmppPair$Stanza;)V"⟩, 6) := ⟨⟨by decide +kernel, by decide +kernel⟩, List.mem_of_getElem? (i := 15) (by decide +kernel), List.mem_of_getElem? (i := 170) (by decide +kernel), List.mem_of_getElem? (i := 171) (by decide +kernel)⟩
theorem lw_p2 : lw_okq (⟨"XmppPair", "boundWith", "(II)LXmppPair$Connection;"⟩, 6) := ⟨⟨by decide +kernel, by decide +kernel⟩, List.mem_of_getElem? (i := 15) (by decide +kernel), List.mem_of_getElem? (i := 174) (by decide +kernel), List.mem_of_getElem? (i := 175) (by decide +kernel)⟩
theorem lw_p3 : lw_okq (⟨"XmppPair", "greatestPriority", "(I)I"⟩, 6) := ⟨⟨by decide +kernel, by decide +kernel⟩, List.mem_of_getElem? (i := 15) (by decide +kernel), List.mem_of_getElem? (i := 182) (by decide +kernel), List.mem_of_getElem? (i := 183) (by decide +kernel)⟩
theorem lw_p4 : lw_okq (⟨"XmppPair", "giveToPriority", "(LXmppPair$Stanza;I)V"⟩, 6) := ⟨⟨by decide +kernel, by decide +kernel⟩, List.mem_of_getElem? (i := 15) (by decide +kernel), List.mem_of_getElem? (i := 190) (by decide +kernel), List.mem_of_getElem? (i := 191) (by decide +kernel)⟩
theorem lw_p5 : lw_okq (⟨"XmppPair", "returnError", "(LXmppPair$Stanza;)V"⟩, 6) := ⟨⟨by decide +kernel, by decide +kernel⟩, List.mem_of_getElem? (i := 15) (by decide +kernel), List.mem_of_getElem? (i := 198) (by decide +kernel), List.mem_of_getElem? (i := 199) (by decide +kernel)⟩
theorem lw_p6 : lw_okq (⟨"XmppPair", "giveToAvailable", "(LXmppPair$Stanza;)V"⟩, 6) := ⟨⟨by decide +kernel, by decide +kernel⟩, List.mem_of_getElem? (i := 15) (by decide +kernel), List.mem_of_getElem? (i := 202) (by decide +kernel), List.mem_of_getElem? (i := 203) (by decide +kernel)⟩
theorem lw_p7 : lw_okq (⟨"XmppPair", "askArrives", "(LXmppPair$Stanza;)V"⟩, 6) := ⟨⟨by decide +kernel, by decide +kernel⟩, List.mem_of_getElem? (i := 15) (by decide +kernel), List.mem_of_getElem? (i := 206) (by decide +kernel), List.mem_of_getElem? (i := 207) (by decide +kernel)⟩
theorem lw_p8 : lw_okq (⟨"XmppPair", "grantArrives", "(LXmppPair$Stanza;)V"⟩, 6) := ⟨⟨by decide +kernel, by decide +kernel⟩, List.mem_of_getElem? (i := 15) (by decide +kernel), List.mem_of_getElem? (i := 214) (by decide +kernel), List.mem_of_getElem? (i := 215) (by decide +kernel)⟩
theorem lw_p9 : lw_okq (⟨"XmppPair", "endingArrives", "(LXmppPair$Stanza;I)V"⟩, 6) := ⟨⟨by decide +kernel, by decide +kernel⟩, List.mem_of_getElem? (i := 15) (by decide +kernel), List.mem_of_getElem? (i := 226) (by decide +kernel), List.mem_of_getElem? (i := 227) (by decide +kernel)⟩
theorem lw_p10 : lw_okq (⟨"java/lang/Throwable", "fillInStackTrace", "(I)Ljava/lang/Throwable;"⟩, 6) := ⟨⟨by decide +kernel, by decide +kernel⟩, List.mem_of_getElem? (i := 284) (by decide +kernel), List.mem_of_getElem? (i := 282) (by decide +kernel), List.mem_of_getElem? (i := 283) (by decide +kernel)⟩
theorem lw_p11 : lw_okq (⟨"XmppPair", "isRightProof", "(LXmppPair$Connection;I)Z"⟩, 6) := ⟨⟨by decide +kernel, by decide +kernel⟩, List.mem_of_getElem? (i := 15) (by decide +kernel), List.mem_of_getElem? (i := 356) (by decide +kernel), List.mem_of_getElem? (i := 357) (by decide +kernel)⟩
theorem lw_p12 : lw_okq (⟨"XmppPair", "shut", "(LXmppPair$Connection;)V"⟩, 6) := ⟨⟨by decide +kernel, by decide +kernel⟩, List.mem_of_getElem? (i := 15) (by decide +kernel), List.mem_of_getElem? (i := 382) (by decide +kernel), List.mem_of_getElem? (i := 383) (by decide +kernel)⟩
theorem lw_p13 : lw_okq (⟨"XmppPair", "sendToWatchers", "(LXmppPair$Connection;I)V"⟩, 6) := ⟨⟨by decide +kernel, by decide +kernel⟩, List.mem_of_getElem? (i := 15) (by decide +kernel), List.mem_of_getElem? (i := 386) (by decide +kernel), List.mem_of_getElem? (i := 387) (by decide +kernel)⟩
theorem lw_p14 : lw_okq (⟨"XmppPair", "send", "(LXmppPair$Stanza;)V"⟩, 6) := ⟨⟨by decide +kernel, by decide +kernel⟩, List.mem_of_getElem? (i := 15) (by decide +kernel), List.mem_of_getElem? (i := 393) (by decide +kernel), List.mem_of_getElem? (i := 394) (by decide +kernel)⟩
theorem lw_p15 : lw_okq (⟨"XmppPair", "canReach", "(II)Z"⟩, 6) := ⟨⟨by decide +kernel, by decide +kernel⟩, List.mem_of_getElem? (i := 15) (by decide +kernel), List.mem_of_getElem? (i := 397) (by decide +kernel), List.mem_of_getElem? (i := 398) (by decide +kernel)⟩
def lw_privs_1 : List (MethodName × Nat) := [(⟨"XmppPair", "arrive", "(LXmppPair$Stanza;)V"⟩, 6), (⟨"XmppPair", "messageArrives", "(LXmppPair$Stanza;)V"⟩, 6), (⟨"XmppPair", "boundWith", "(II)LXmppPair$Connection;"⟩, 6), (⟨"XmppPair", "greatestPriority", "(I)I"⟩, 6), (⟨"XmppPair", "giveToPriority", "(LXmppPair$Stanza;I)V"⟩, 6), (⟨"XmppPair", "returnError", "(LXmppPair$Stanza;)V"⟩, 6), (⟨"XmppPair", "giveToAvailable", "(LXmppPair$Stanza;)V"⟩, 6), (⟨"XmppPair", "askArrives", "(LXmppPair$Stanza;)V"⟩, 6), (⟨"XmppPair", "grantArrives", "(LXmppPair$Stanza;)V"⟩, 6), (⟨"XmppPair", "endingArrives", "(LXmppPair$Stanza;I)V"⟩, 6), (⟨"java/lang/Throwable", "fillInStackTrace", "(I)Ljava/lang/Throwable;"⟩, 6), (⟨"XmppPair", "isRightProof", "(LXmppPair$Connection;I)Z"⟩, 6), (⟨"XmppPair", "shut", "(LXmppPair$Connection;)V"⟩, 6), (⟨"XmppPair", "sendToWatchers", "(LXmppPair$Connection;I)V"⟩, 6), (⟨"XmppPair", "send", "(LXmppPair$Stanza;)V"⟩, 6), (⟨"XmppPair", "canReach", "(II)Z"⟩, 6)]
theorem lw_r1 : ∀ q ∈ lw_privs_1, lw_okq q := List.forall_mem_cons.mpr ⟨lw_p0, List.forall_mem_cons.mpr ⟨lw_p1, List.forall_mem_cons.mpr ⟨lw_p2, List.forall_mem_cons.mpr ⟨lw_p3, List.forall_mem_cons.mpr ⟨lw_p4, List.forall_mem_cons.mpr ⟨lw_p5, List.forall_mem_cons.mpr ⟨lw_p6, List.forall_mem_cons.mpr ⟨lw_p7, List.forall_mem_cons.mpr ⟨lw_p8, List.forall_mem_cons.mpr ⟨lw_p9, List.forall_mem_cons.mpr ⟨lw_p10, List.forall_mem_cons.mpr ⟨lw_p11, List.forall_mem_cons.mpr ⟨lw_p12, List.forall_mem_cons.mpr ⟨lw_p13, List.forall_mem_cons.mpr ⟨lw_p14, List.forall_mem_cons.mpr ⟨lw_p15, fun _ h => absurd h List.not_mem_nil⟩⟩⟩⟩⟩⟩⟩⟩⟩⟩⟩⟩⟩⟩⟩⟩
theorem lw_p16 : lw_okq (⟨"XmppPair", "showOthers", "(LXmppPair$Connection;)V"⟩, 6) := ⟨⟨by decide +kernel, by decide +kernel⟩, List.mem_of_getElem? (i := 15) (by decide +kernel), List.mem_of_getElem? (i := 411) (by decide +kernel), List.mem_of_getElem? (i := 412) (by decide +kernel)⟩
theorem lw_p17 : lw_okq (⟨"XmppPair", "showConnectionsOf", "(ILXmppPair$Connection;)V"⟩, 6) := ⟨⟨by decide +kernel, by decide +kernel⟩, List.mem_of_getElem? (i := 15) (by decide +kernel), List.mem_of_getElem? (i := 415) (by decide +kernel), List.mem_of_getElem? (i := 416) (by decide +kernel)⟩
theorem lw_p18 : lw_okq (⟨"XmppPair", "handOverKept", "(LXmppPair$Connection;)V"⟩, 6) := ⟨⟨by decide +kernel, by decide +kernel⟩, List.mem_of_getElem? (i := 15) (by decide +kernel), List.mem_of_getElem? (i := 419) (by decide +kernel), List.mem_of_getElem? (i := 420) (by decide +kernel)⟩
theorem lw_p19 : lw_okq (⟨"XmppPair", "sendPresences", "(III)V"⟩, 6) := ⟨⟨by decide +kernel, by decide +kernel⟩, List.mem_of_getElem? (i := 15) (by decide +kernel), List.mem_of_getElem? (i := 451) (by decide +kernel), List.mem_of_getElem? (i := 452) (by decide +kernel)⟩
theorem lw_p20 : lw_okq (⟨"XmppPair", "keptForAll", "()I"⟩, 6) := ⟨⟨by decide +kernel, by decide +kernel⟩, List.mem_of_getElem? (i := 15) (by decide +kernel), List.mem_of_getElem? (i := 509) (by decide +kernel), List.mem_of_getElem? (i := 510) (by decide +kernel)⟩
theorem lw_p21 : lw_okq (⟨"XmppPair", "lostByAll", "()I"⟩, 6) := ⟨⟨by decide +kernel, by decide +kernel⟩, List.mem_of_getElem? (i := 15) (by decide +kernel), List.mem_of_getElem? (i := 513) (by decide +kernel), List.mem_of_getElem? (i := 514) (by decide +kernel)⟩
theorem lw_p22 : lw_okq (⟨"XmppPairModel", "raise", "(I)I"⟩, 34) := ⟨⟨by decide +kernel, by decide +kernel⟩, List.mem_of_getElem? (i := 517) (by decide +kernel), List.mem_of_getElem? (i := 641) (by decide +kernel), List.mem_of_getElem? (i := 642) (by decide +kernel)⟩
theorem lw_p23 : lw_okq (⟨"XmppPairModel", "shut", "(I)V"⟩, 34) := ⟨⟨by decide +kernel, by decide +kernel⟩, List.mem_of_getElem? (i := 517) (by decide +kernel), List.mem_of_getElem? (i := 667) (by decide +kernel), List.mem_of_getElem? (i := 668) (by decide +kernel)⟩
theorem lw_p24 : lw_okq (⟨"XmppPairModel", "tell", "(II)V"⟩, 34) := ⟨⟨by decide +kernel, by decide +kernel⟩, List.mem_of_getElem? (i := 517) (by decide +kernel), List.mem_of_getElem? (i := 671) (by decide +kernel), List.mem_of_getElem? (i := 672) (by decide +kernel)⟩
theorem lw_p25 : lw_okq (⟨"XmppPairModel", "marked", "(III)Z"⟩, 34) := ⟨⟨by decide +kernel, by decide +kernel⟩, List.mem_of_getElem? (i := 517) (by decide +kernel), List.mem_of_getElem? (i := 675) (by decide +kernel), List.mem_of_getElem? (i := 676) (by decide +kernel)⟩
theorem lw_p26 : lw_okq (⟨"XmppPairModel", "send", "(IIIIII)V"⟩, 34) := ⟨⟨by decide +kernel, by decide +kernel⟩, List.mem_of_getElem? (i := 517) (by decide +kernel), List.mem_of_getElem? (i := 679) (by decide +kernel), List.mem_of_getElem? (i := 680) (by decide +kernel)⟩
theorem lw_p27 : lw_okq (⟨"XmppPairModel", "hold", "(IIIIII)V"⟩, 34) := ⟨⟨by decide +kernel, by decide +kernel⟩, List.mem_of_getElem? (i := 517) (by decide +kernel), List.mem_of_getElem? (i := 683) (by decide +kernel), List.mem_of_getElem? (i := 684) (by decide +kernel)⟩
theorem lw_p28 : lw_okq (⟨"XmppPairModel", "putAll", "(IIIII)V"⟩, 34) := ⟨⟨by decide +kernel, by decide +kernel⟩, List.mem_of_getElem? (i := 517) (by decide +kernel), List.mem_of_getElem? (i := 687) (by decide +kernel), List.mem_of_getElem? (i := 688) (by decide +kernel)⟩
theorem lw_p29 : lw_okq (⟨"XmppPairModel", "put", "(IIIII)V"⟩, 34) := ⟨⟨by decide +kernel, by decide +kernel⟩, List.mem_of_getElem? (i := 517) (by decide +kernel), List.mem_of_getElem? (i := 691) (by decide +kernel), List.mem_of_getElem? (i := 692) (by decide +kernel)⟩
theorem lw_p30 : lw_okq (⟨"XmppPairModel", "arrive", "(IIIIII)V"⟩, 34) := ⟨⟨by decide +kernel, by decide +kernel⟩, List.mem_of_getElem? (i := 517) (by decide +kernel), List.mem_of_getElem? (i := 695) (by decide +kernel), List.mem_of_getElem? (i := 696) (by decide +kernel)⟩
theorem lw_p31 : lw_okq (⟨"XmppPairModel", "route", "(IIIII)I"⟩, 34) := ⟨⟨by decide +kernel, by decide +kernel⟩, List.mem_of_getElem? (i := 517) (by decide +kernel), List.mem_of_getElem? (i := 699) (by decide +kernel), List.mem_of_getElem? (i := 700) (by decide +kernel)⟩
def lw_privs_2 : List (MethodName × Nat) := [(⟨"XmppPair", "showOthers", "(LXmppPair$Connection;)V"⟩, 6), (⟨"XmppPair", "showConnectionsOf", "(ILXmppPair$Connection;)V"⟩, 6), (⟨"XmppPair", "handOverKept", "(LXmppPair$Connection;)V"⟩, 6), (⟨"XmppPair", "sendPresences", "(III)V"⟩, 6), (⟨"XmppPair", "keptForAll", "()I"⟩, 6), (⟨"XmppPair", "lostByAll", "()I"⟩, 6), (⟨"XmppPairModel", "raise", "(I)I"⟩, 34), (⟨"XmppPairModel", "shut", "(I)V"⟩, 34), (⟨"XmppPairModel", "tell", "(II)V"⟩, 34), (⟨"XmppPairModel", "marked", "(III)Z"⟩, 34), (⟨"XmppPairModel", "send", "(IIIIII)V"⟩, 34), (⟨"XmppPairModel", "hold", "(IIIIII)V"⟩, 34), (⟨"XmppPairModel", "putAll", "(IIIII)V"⟩, 34), (⟨"XmppPairModel", "put", "(IIIII)V"⟩, 34), (⟨"XmppPairModel", "arrive", "(IIIIII)V"⟩, 34), (⟨"XmppPairModel", "route", "(IIIII)I"⟩, 34)]
theorem lw_r2 : ∀ q ∈ lw_privs_2, lw_okq q := List.forall_mem_cons.mpr ⟨lw_p16, List.forall_mem_cons.mpr ⟨lw_p17, List.forall_mem_cons.mpr ⟨lw_p18, List.forall_mem_cons.mpr ⟨lw_p19, List.forall_mem_cons.mpr ⟨lw_p20, List.forall_mem_cons.mpr ⟨lw_p21, List.forall_mem_cons.mpr ⟨lw_p22, List.forall_mem_cons.mpr ⟨lw_p23, List.forall_mem_cons.mpr ⟨lw_p24, List.forall_mem_cons.mpr ⟨lw_p25, List.forall_mem_cons.mpr ⟨lw_p26, List.forall_mem_cons.mpr ⟨lw_p27, List.forall_mem_cons.mpr ⟨lw_p28, List.forall_mem_cons.mpr ⟨lw_p29, List.forall_mem_cons.mpr ⟨lw_p30, List.forall_mem_cons.mpr ⟨lw_p31, fun _ h => absurd h List.not_mem_nil⟩⟩⟩⟩⟩⟩⟩⟩⟩⟩⟩⟩⟩⟩⟩⟩
theorem lw_p32 : lw_okq (⟨"XmppPairModel", "mark", "(III)V"⟩, 34) := ⟨⟨by decide +kernel, by decide +kernel⟩, List.mem_of_getElem? (i := 517) (by decide +kernel), List.mem_of_getElem? (i := 703) (by decide +kernel), List.mem_of_getElem? (i := 704) (by decide +kernel)⟩
theorem lw_p33 : lw_okq (⟨"XmppPairModel", "unmark", "(III)V"⟩, 34) := ⟨⟨by decide +kernel, by decide +kernel⟩, List.mem_of_getElem? (i := 517) (by decide +kernel), List.mem_of_getElem? (i := 707) (by decide +kernel), List.mem_of_getElem? (i := 708) (by decide +kernel)⟩
theorem lw_p34 : lw_okq (⟨"XmppPairModel", "end", "(IIII)V"⟩, 34) := ⟨⟨by decide +kernel, by decide +kernel⟩, List.mem_of_getElem? (i := 517) (by decide +kernel), List.mem_of_getElem? (i := 711) (by decide +kernel), List.mem_of_getElem? (i := 712) (by decide +kernel)⟩
theorem lw_p35 : lw_okq (⟨"XmppPairModel", "welcome", "(I)V"⟩, 34) := ⟨⟨by decide +kernel, by decide +kernel⟩, List.mem_of_getElem? (i := 517) (by decide +kernel), List.mem_of_getElem? (i := 719) (by decide +kernel), List.mem_of_getElem? (i := 720) (by decide +kernel)⟩
theorem lw_p36 : lw_okq (⟨"XmppPairModel", "show", "(III)V"⟩, 34) := ⟨⟨by decide +kernel, by decide +kernel⟩, List.mem_of_getElem? (i := 517) (by decide +kernel), List.mem_of_getElem? (i := 739) (by decide +kernel), List.mem_of_getElem? (i := 740) (by decide +kernel)⟩
def lw_privs_3 : List (MethodName × Nat) := [(⟨"XmppPairModel", "mark", "(III)V"⟩, 34), (⟨"XmppPairModel", "unmark", "(III)V"⟩, 34), (⟨"XmppPairModel", "end", "(IIII)V"⟩, 34), (⟨"XmppPairModel", "welcome", "(I)V"⟩, 34), (⟨"XmppPairModel", "show", "(III)V"⟩, 34)]
theorem lw_r3 : ∀ q ∈ lw_privs_3, lw_okq q := List.forall_mem_cons.mpr ⟨lw_p32, List.forall_mem_cons.mpr ⟨lw_p33, List.forall_mem_cons.mpr ⟨lw_p34, List.forall_mem_cons.mpr ⟨lw_p35, List.forall_mem_cons.mpr ⟨lw_p36, fun _ h => absurd h List.not_mem_nil⟩⟩⟩⟩⟩
def lw_privs : List (MethodName × Nat) := lw_privs_1 ++ (lw_privs_2 ++ (lw_privs_3))
def lw_tbl : List Cond := k2_sels lw_privs ++ tables_1
theorem lw_privs_ok : ∀ q ∈ lw_privs, lw_okq q := by
  show ∀ q ∈ lw_privs_1 ++ (lw_privs_2 ++ (lw_privs_3)), lw_okq q
  exact List.forall_mem_append.mpr ⟨lw_r1, List.forall_mem_append.mpr ⟨lw_r2, lw_r3⟩⟩
end
section
/-! What a state of the system IS: a mathematical value, and what each method does to it. -/
/-- a stanza: kind, from, resource, value, to, target -/
abbrev xs_Z : Type := Int32 × Int32 × Int32 × Int32 × Int32 × Int32
/-- a connection: stage, account, resource, priority, challenge, available -/
abbrev xs_C : Type := Int32 × Int32 × Int32 × Int32 × Int32 × Bool
/-- accounts (registered, password), marks, connections, the fifteen queues (0 to 7 kept, 8 to 13 inboxes, 14 waiting), their losses, link, next challenge, taken last -/
abbrev xs_S : Type := (Nat → Bool × Int32) × (Nat → Nat → Int32) × (Nat → xs_C) × (Nat → List xs_Z) × (Nat → Int32) × Bool × Int32 × Option xs_Z
def xs_b (b : Bool) : Int32 := if b = true then 1 else 0
theorem xs_b0 {b : Bool} (h : xs_b b = 0) : b = false := by cases b <;> first | rfl | (exact absurd h (by decide))
theorem xs_b1 {b : Bool} (h : ¬ xs_b b = 0) : b = true := by cases b <;> first | rfl | (exact absurd rfl h)
def xs_ac (σ : xs_S) : Nat → Bool × Int32 := σ.1
def xs_mk (σ : xs_S) : Nat → Nat → Int32 := σ.2.1
def xs_cn (σ : xs_S) : Nat → xs_C := σ.2.2.1
def xs_q (σ : xs_S) : Nat → List xs_Z := σ.2.2.2.1
def xs_lo (σ : xs_S) : Nat → Int32 := σ.2.2.2.2.1
def xs_up (σ : xs_S) : Bool := σ.2.2.2.2.2.1
def xs_nx (σ : xs_S) : Int32 := σ.2.2.2.2.2.2.1
def xs_lt (σ : xs_S) : Option xs_Z := σ.2.2.2.2.2.2.2
def xs_sac (σ : xs_S) (i : Nat) (v : Bool × Int32) : xs_S := (va_up (xs_ac σ) i v, xs_mk σ, xs_cn σ, xs_q σ, xs_lo σ, xs_up σ, xs_nx σ, xs_lt σ)
def xs_smk (σ : xs_S) (i j : Nat) (v : Int32) : xs_S := (xs_ac σ, va_up (xs_mk σ) i (upd (xs_mk σ i) j v), xs_cn σ, xs_q σ, xs_lo σ, xs_up σ, xs_nx σ, xs_lt σ)
def xs_scn (σ : xs_S) (i : Nat) (v : xs_C) : xs_S := (xs_ac σ, xs_mk σ, va_up (xs_cn σ) i v, xs_q σ, xs_lo σ, xs_up σ, xs_nx σ, xs_lt σ)
def xs_sq (σ : xs_S) (n : Nat) (l : List xs_Z) (w : Int32) : xs_S := (xs_ac σ, xs_mk σ, xs_cn σ, va_up (xs_q σ) n l, va_up (xs_lo σ) n w, xs_up σ, xs_nx σ, xs_lt σ)
def xs_sg (σ : xs_S) (u : Bool) (n : Int32) (t : Option xs_Z) : xs_S := (xs_ac σ, xs_mk σ, xs_cn σ, xs_q σ, xs_lo σ, u, n, t)
/-- the offset of a queue in the block of cells, and its room -/
def xs_qo (n : Nat) : Nat := if n < 8 then 5 + 4 * n else if n < 14 then 37 + 3 * (n - 8) else 54
def xs_rm (n : Nat) : Nat := if n < 8 then 4 else if n < 14 then 10 else 8
def xs_z0 : xs_Z := (0, -1, -1, 0, -1, -1)
def xs_ix (x : Int32) : Nat := x.toNatClampNeg
-- queues
def xm_add (σ : xs_S) (n : Nat) (z : xs_Z) : xs_S := if (xs_q σ n).length < xs_rm n then xs_sq σ n (xs_q σ n ++ [z]) (xs_lo σ n) else xs_sq σ n (xs_q σ n) (xs_lo σ n + 1)
def xm_pop (σ : xs_S) (n : Nat) : xs_S := xs_sq σ n (xs_q σ n).tail (xs_lo σ n)
def xm_full (σ : xs_S) (n : Nat) : Bool := decide (xs_rm n ≤ (xs_q σ n).length)
def xm_clear (σ : xs_S) (n : Nat) : xs_S := xs_sq σ n [] (xs_lo σ n)
-- marks
def xm_has (σ : xs_S) (a b : Nat) (w : Int32) : Bool := decide (¬ xs_mk σ a b &&& w = 0)
def xm_mark (σ : xs_S) (a b : Nat) (w : Int32) : xs_S := xs_smk σ a b (xs_mk σ a b ||| w)
def xm_drop (σ : xs_S) (a b : Nat) (w : Int32) : xs_S := xs_smk σ a b (xs_mk σ a b &&& (w ^^^ (-1)))
-- who is there
def xm_av (σ : xs_S) (i : Nat) (w : Int32) : Bool := (xs_cn σ i).2.2.2.2.2 && decide ((xs_cn σ i).2.1 = w)
def xm_one (f t : Int32) : Bool := decide (4 ≤ f) == decide (4 ≤ t)
def xm_reach (σ : xs_S) (f t : Int32) : Bool := xs_up σ || xm_one f t
def xm_bw : Nat → Nat → xs_S → Int32 → Int32 → Option Nat
  | 0, _, _, _, _ => none
  | n + 1, i, σ, a, r => if (xs_cn σ i).1 = 4 ∧ (xs_cn σ i).2.1 = a ∧ (xs_cn σ i).2.2.1 = r then some i else xm_bw n (i + 1) σ a r
def xm_great : Nat → Nat → xs_S → Int32 → Int32 → Int32
  | 0, _, _, _, g => g
  | n + 1, i, σ, a, g => xm_great n (i + 1) σ a (if xm_av σ i a = true ∧ ¬ (xs_cn σ i).2.2.2.1 ≤ g then (xs_cn σ i).2.2.2.1 else g)
-- giving
def xm_give : Nat → Nat → xs_S → xs_Z → xs_S
  | 0, _, σ, _ => σ
  | n + 1, i, σ, z => xm_give n (i + 1) (if xm_av σ i z.2.2.2.2.1 = true then xm_add σ (8 + i) z else σ) z
def xm_gp : Nat → Nat → xs_S → xs_Z → Int32 → xs_S
  | 0, _, σ, _, _ => σ
  | n + 1, i, σ, z, p => xm_gp n (i + 1) (if xm_av σ i z.2.2.2.2.1 = true ∧ (xs_cn σ i).2.2.2.1 = p then xm_add σ (8 + i) z else σ) z p
def xm_err (σ : xs_S) (z : xs_Z) : xs_S := xm_give 6 0 σ (8, z.2.2.2.2.1, -1, z.2.2.2.1, z.2.1, -1)
-- arriving
def xm_msg2 (σ : xs_S) (z : xs_Z) : xs_S :=
  if ¬ xm_great 6 0 σ z.2.2.2.2.1 (-1) < 0 then xm_gp 6 0 σ z (xm_great 6 0 σ z.2.2.2.2.1 (-1))
  else if (xs_ac σ (xs_ix z.2.2.2.2.1)).1 = true ∧ xm_full σ (xs_ix z.2.2.2.2.1) = false then xm_add σ (xs_ix z.2.2.2.2.1) z
  else xm_err σ z
def xm_msg (σ : xs_S) (z : xs_Z) : xs_S := match xm_bw 6 0 σ z.2.2.2.2.1 z.2.2.2.2.2 with
  | none => xm_msg2 σ z
  | some i => if (xs_cn σ i).2.2.2.2.2 = true then xm_add σ (8 + i) z else xm_msg2 σ z
def xm_grant (σ : xs_S) (z : xs_Z) : xs_S :=
  if xm_has σ (xs_ix z.2.2.2.2.1) (xs_ix z.2.1) 4 = true then xm_give 6 0 (xm_drop (xm_mark σ (xs_ix z.2.2.2.2.1) (xs_ix z.2.1) 1) (xs_ix z.2.2.2.2.1) (xs_ix z.2.1) 4) z else σ
def xm_ask (σ : xs_S) (z : xs_Z) : xs_S :=
  if xm_has σ (xs_ix z.2.2.2.2.1) (xs_ix z.2.1) 2 = true then xm_grant σ (5, z.2.2.2.2.1, -1, 0, z.2.1, -1)
  else if (xs_ac σ (xs_ix z.2.2.2.2.1)).1 = true then xm_give 6 0 (xm_mark σ (xs_ix z.2.2.2.2.1) (xs_ix z.2.1) 8) z
  else σ
def xm_end (σ : xs_S) (z : xs_Z) (w : Int32) : xs_S :=
  if xm_has σ (xs_ix z.2.2.2.2.1) (xs_ix z.2.1) w = true then xm_give 6 0 (xm_drop σ (xs_ix z.2.2.2.2.1) (xs_ix z.2.1) w) z else σ
def xm_arr (σ : xs_S) (z : xs_Z) : xs_S :=
  if z.1 = 1 then xm_msg σ z
  else if z.1 = 4 then xm_ask σ z
  else if z.1 = 5 then xm_grant σ z
  else if z.1 = 6 then xm_end σ z 10
  else if z.1 = 7 then xm_end σ z 5
  else if z.1 = 2 ∨ z.1 = 3 then (if xm_has σ (xs_ix z.2.2.2.2.1) (xs_ix z.2.1) 1 = true then xm_give 6 0 σ z else σ)
  else σ
def xm_send (σ : xs_S) (z : xs_Z) : xs_S :=
  if xm_reach σ z.2.1 z.2.2.2.2.1 = true then xm_arr σ z
  else if xm_full σ 14 = false then xm_add σ 14 z
  else if z.1 = 1 then xm_err σ z
  else σ
-- presences
def xm_pres (σ : xs_S) (i : Nat) (k t : Int32) : xs_Z := (k, (xs_cn σ i).2.1, (xs_cn σ i).2.2.1, (if k = 2 then (xs_cn σ i).2.2.2.1 else 0), t, -1)
def xm_stw : Nat → Nat → xs_S → Nat → Nat → Int32 → xs_S
  | 0, _, σ, _, _, _ => σ
  | n + 1, j, σ, a, i, k => xm_stw n (j + 1) (if xm_has σ a j 2 = true then xm_send σ (xm_pres σ i k (nI j)) else σ) a i k
def xm_sp : Nat → Nat → xs_S → Int32 → Int32 → Int32 → xs_S
  | 0, _, σ, _, _, _ => σ
  | n + 1, i, σ, a, t, k => xm_sp n (i + 1) (if xm_av σ i a = true then xm_send σ (xm_pres σ i k t) else σ) a t k
def xm_sco : Nat → Nat → xs_S → Int32 → Nat → xs_S
  | 0, _, σ, _, _ => σ
  | n + 1, i, σ, w, c => xm_sco n (i + 1) (if xm_av σ i w = true then xm_add σ (8 + c) (xm_pres σ i 2 (xs_cn σ c).2.1) else σ) w c
def xm_so : Nat → Nat → xs_S → Nat → Nat → xs_S
  | 0, _, σ, _, _ => σ
  | n + 1, j, σ, a, c => xm_so n (j + 1) (if xm_has σ a j 1 = true ∧ xm_reach σ (xs_cn σ c).2.1 (nI j) = true then xm_sco 6 0 σ (nI j) c else σ) a c
def xm_hk : Nat → xs_S → Nat → Nat → xs_S
  | 0, σ, _, _ => σ
  | n + 1, σ, a, c => xm_hk n (xm_add (xm_pop σ a) (8 + c) ((xs_q σ a).headD xs_z0)) a c
def xm_com (σ : xs_S) (a b : Nat) (k : Int32) : xs_S :=
  if k = 4 then (if xm_has σ a b 1 = true then σ else xm_mark σ a b 4)
  else if k = 5 then xm_drop (xm_mark σ a b 2) a b 8
  else if k = 6 then xm_drop σ a b 5
  else if k = 7 then xm_drop σ a b 10
  else σ
def xm_sav (σ : xs_S) (i : Nat) (b : Bool) : xs_S := xs_scn σ i ((xs_cn σ i).1, (xs_cn σ i).2.1, (xs_cn σ i).2.2.1, (xs_cn σ i).2.2.2.1, (xs_cn σ i).2.2.2.2.1, b)
def xm_sst (σ : xs_S) (i : Nat) (v : Int32) : xs_S := xs_scn σ i (v, (xs_cn σ i).2)
def xm_sacc (σ : xs_S) (i : Nat) (v : Int32) : xs_S := xs_scn σ i ((xs_cn σ i).1, v, (xs_cn σ i).2.2)
def xm_srs (σ : xs_S) (i : Nat) (v : Int32) : xs_S := xs_scn σ i ((xs_cn σ i).1, (xs_cn σ i).2.1, v, (xs_cn σ i).2.2.2)
def xm_spr (σ : xs_S) (i : Nat) (v : Int32) : xs_S := xs_scn σ i ((xs_cn σ i).1, (xs_cn σ i).2.1, (xs_cn σ i).2.2.1, v, (xs_cn σ i).2.2.2.2)
def xm_sch (σ : xs_S) (i : Nat) (v : Int32) : xs_S := xs_scn σ i ((xs_cn σ i).1, (xs_cn σ i).2.1, (xs_cn σ i).2.2.1, (xs_cn σ i).2.2.2.1, v, (xs_cn σ i).2.2.2.2.2)
def xm_quiet (σ : xs_S) (i : Nat) : xs_S := if (xs_cn σ i).2.2.2.2.2 = true then xm_stw 8 0 (xm_sav σ i false) (xs_ix (xs_cn σ i).2.1) i 3 else σ
def xm_shut (σ : xs_S) (i : Nat) : xs_S := xm_srs (xm_sacc (xm_sst (xm_quiet σ i) i 0) i (-1)) i (-1)
def xm_lk : Nat → xs_S → xs_S
  | 0, σ => σ
  | n + 1, σ => xm_lk n (xm_arr (xm_pop σ 14) ((xs_q σ 14).headD xs_z0))
def xm_in8 (a : Int32) : Bool := decide (¬ a < 0 ∧ ¬ 8 ≤ a)
def xm_in6 (a : Int32) : Bool := decide (¬ a < 0 ∧ ¬ 6 ≤ a)
def xm_proof (σ : xs_S) (i : Nat) (p : Int32) : Bool :=
  (xs_ac σ (xs_ix (xs_cn σ i).2.1)).1 && decide (p = ((xs_ac σ (xs_ix (xs_cn σ i).2.1)).2 * 31 + (xs_cn σ i).2.2.2.2.1) - ((xs_ac σ (xs_ix (xs_cn σ i).2.1)).2 * 31 + (xs_cn σ i).2.2.2.2.1) / 10007 * 10007)
def xm_kall : Nat → Nat → xs_S → Int32 → Int32
  | 0, _, _, w => w
  | n + 1, i, σ, w => xm_kall n (i + 1) σ (w + nI (xs_q σ i).length)
def xm_lall : Nat → Nat → xs_S → Int32 → Int32
  | 0, _, _, w => w
  | n + 1, i, σ, w => xm_lall n (i + 1) σ (w + xs_lo σ (8 + i))
def xm_bwV (o : Nat) (r : Option Nat) (v : Value) : Prop := match r with
  | none => v = .null
  | some i => v = .ref (o + 36 + 3 * i) ∧ i < 6
theorem xs_ixl {x : Int32} {n : Nat} (h : vp_in x n) : xs_ix x < n := Nat.not_le.mp fun q => h (Or.inr q)
theorem xs_8 {i : Nat} (h : i < 6) : 8 + i < 15 := by omega
theorem xm_in8t {a : Int32} (h : xm_in8 a = true) : vp_in a 8 := by
  have h := of_decide_eq_true h
  obtain ⟨j, hj, rfl⟩ := nI_of h.1
  refine vp_in_nI (Nat.not_le.mp fun q => h.2 ?_) (by decide)
  exact nI_le q hj
theorem xm_in6t {a : Int32} (h : xm_in6 a = true) : vp_in a 6 := by
  have h := of_decide_eq_true h
  obtain ⟨j, hj, rfl⟩ := nI_of h.1
  refine vp_in_nI (Nat.not_le.mp fun q => h.2 ?_) (by decide)
  exact nI_le q hj
-- the face: code (0 answers; 1 argument, 2 state, 3 unsupported, 4 no such element), answer, state
def xp_register (σ : xs_S) (a p : Int32) : Nat × Int32 × xs_S :=
  if xm_in8 a = true ∧ ¬ p < 0 ∧ ¬ 9999 < p then (if (xs_ac σ (xs_ix a)).1 = true then (2, 0, σ) else (0, 1, xs_sac σ (xs_ix a) (true, p))) else (1, 0, σ)
def xp_connect (σ : xs_S) (c : Int32) : Nat × Int32 × xs_S :=
  if xm_in6 c = true then (if (xs_cn σ (xs_ix c)).1 = 0 then (0, 1, xm_clear (xm_sst σ (xs_ix c) 1) (8 + xs_ix c)) else (2, 0, σ)) else (1, 0, σ)
def xp_login1 (σ : xs_S) (i : Nat) (a : Int32) : xs_S := xm_sch (xm_sacc (xm_sst σ i 2) i a) i (xs_nx σ)
def xp_login (σ : xs_S) (c a : Int32) : Nat × Int32 × xs_S :=
  if xm_in6 c = true ∧ xm_in8 a = true then (if (xs_cn σ (xs_ix c)).1 = 1 then (0, xs_nx σ, xs_sg (xp_login1 σ (xs_ix c) a) (xs_up σ) ((xs_nx σ + 7919) - (xs_nx σ + 7919) / 10000 * 10000) (xs_lt σ)) else (2, 0, σ)) else (1, 0, σ)
def xp_prove (σ : xs_S) (c p : Int32) : Nat × Int32 × xs_S :=
  if xm_in6 c = true then (if (xs_cn σ (xs_ix c)).1 = 2 then (if xm_proof σ (xs_ix c) p = true then (0, 1, xm_sst σ (xs_ix c) 3) else (3, 0, xm_sacc (xm_sst σ (xs_ix c) 1) (xs_ix c) (-1))) else (2, 0, σ)) else (1, 0, σ)
def xp_bind1 (σ : xs_S) (i : Nat) (r : Int32) : xs_S := xm_srs (xm_sst σ i 4) i r
def xp_bind (σ : xs_S) (c r : Int32) : Nat × Int32 × xs_S :=
  if xm_in6 c = true ∧ ¬ r < 0 ∧ ¬ 3 ≤ r then (if (xs_cn σ (xs_ix c)).1 = 3 then (match xm_bw 6 0 σ (xs_cn σ (xs_ix c)).2.1 r with
    | none => (0, 0, xp_bind1 σ (xs_ix c) r)
    | some k => (0, 1, xp_bind1 (xm_shut σ k) (xs_ix c) r)) else (2, 0, σ)) else (1, 0, σ)
def xp_here1 (σ : xs_S) (i : Nat) (p : Int32) : xs_S := xm_stw 8 0 (xm_spr (xm_sav σ i true) i p) (xs_ix (xs_cn σ i).2.1) i 2
def xp_here2 (σ : xs_S) (i : Nat) (p : Int32) : xs_S :=
  if p < 0 then xm_so 8 0 (xp_here1 σ i p) (xs_ix (xs_cn σ i).2.1) i
  else xm_hk (xs_q (xm_so 8 0 (xp_here1 σ i p) (xs_ix (xs_cn σ i).2.1) i) (xs_ix (xs_cn σ i).2.1)).length (xm_so 8 0 (xp_here1 σ i p) (xs_ix (xs_cn σ i).2.1) i) (xs_ix (xs_cn σ i).2.1) i
def xp_here3 (σ : xs_S) (i : Nat) (p : Int32) : xs_S := if (xs_cn σ i).2.2.2.2.2 = true then xp_here1 σ i p else xp_here2 σ i p
def xp_here (σ : xs_S) (c p : Int32) : Nat × Int32 × xs_S :=
  if xm_in6 c = true ∧ ¬ p < (-3) ∧ ¬ 3 < p then (if (xs_cn σ (xs_ix c)).1 = 4 then (0, nI (xs_q (xp_here3 σ (xs_ix c) p) (8 + xs_ix c)).length, xp_here3 σ (xs_ix c) p) else (2, 0, σ)) else (1, 0, σ)
def xp_gone (σ : xs_S) (c : Int32) : Nat × Int32 × xs_S :=
  if xm_in6 c = true then (if (xs_cn σ (xs_ix c)).2.2.2.2.2 = true then (0, 1, xm_stw 8 0 (xm_sav σ (xs_ix c) false) (xs_ix (xs_cn σ (xs_ix c)).2.1) (xs_ix c) 3) else (2, 0, σ)) else (1, 0, σ)
def xp_close (σ : xs_S) (c : Int32) : Nat × Int32 × xs_S :=
  if xm_in6 c = true then (if (xs_cn σ (xs_ix c)).1 = 0 then (2, 0, σ) else (0, (xs_cn σ (xs_ix c)).1, xm_shut σ (xs_ix c))) else (1, 0, σ)
def xp_message (σ : xs_S) (c a r b : Int32) : Nat × Int32 × xs_S :=
  if xm_in6 c = true ∧ xm_in8 a = true ∧ ¬ r < (-1) ∧ ¬ 3 ≤ r then (if (xs_cn σ (xs_ix c)).1 = 4 then (0, 1, xm_send σ (1, (xs_cn σ (xs_ix c)).2.1, (xs_cn σ (xs_ix c)).2.2.1, b, a, r)) else (2, 0, σ)) else (1, 0, σ)
def xp_sub1 (σ : xs_S) (i : Nat) (a k : Int32) : xs_S := if k = 7 ∧ xm_has σ (xs_ix (xs_cn σ i).2.1) (xs_ix a) 2 = true then xm_sp 6 0 σ (xs_cn σ i).2.1 a 3 else σ
def xp_sub2 (σ : xs_S) (i : Nat) (a k : Int32) : xs_S := xm_send (xm_com (xp_sub1 σ i a k) (xs_ix (xs_cn σ i).2.1) (xs_ix a) k) (k, (xs_cn σ i).2.1, -1, 0, a, -1)
def xp_sub3 (σ : xs_S) (i : Nat) (a k : Int32) : xs_S := if k = 5 then xm_sp 6 0 (xp_sub2 σ i a k) (xs_cn σ i).2.1 a 2 else xp_sub2 σ i a k
def xp_subscribe (σ : xs_S) (c a k : Int32) : Nat × Int32 × xs_S :=
  if xm_in6 c = true ∧ xm_in8 a = true ∧ ¬ k < 4 ∧ ¬ 7 < k then (if (xs_cn σ (xs_ix c)).2.1 = a then (1, 0, σ) else if (xs_cn σ (xs_ix c)).1 = 4 then
    (if k = 5 ∧ xm_has σ (xs_ix (xs_cn σ (xs_ix c)).2.1) (xs_ix a) 8 = false then (0, 0, σ) else (0, 1, xp_sub3 σ (xs_ix c) a k)) else (2, 0, σ)) else (1, 0, σ)
def xp_link1 (σ : xs_S) (u : Bool) : xs_S := xs_sg σ u (xs_nx σ) (xs_lt σ)
def xp_link (σ : xs_S) (u : Bool) : Nat × Int32 × xs_S := if u = true then (0, nI (xs_q σ 14).length, xm_lk (xs_q σ 14).length (xp_link1 σ u)) else (0, 0, xp_link1 σ u)
def xp_take (σ : xs_S) (c : Int32) : Nat × Int32 × xs_S :=
  if xm_in6 c = true then (match xs_q σ (8 + xs_ix c) with
    | [] => (4, 0, σ)
    | z :: _ => (0, z.1, xs_sg (xm_pop σ (8 + xs_ix c)) (xs_up σ) (xs_nx σ) (some z))) else (1, 0, σ)
def xp_taken (σ : xs_S) (w : Int32) : Nat × Int32 × xs_S := match xs_lt σ with
  | none => (4, 0, σ)
  | some z => if w = 0 then (0, z.2.1, σ) else if w = 1 then (0, z.2.2.1, σ) else if w = 2 then (0, z.2.2.2.1, σ) else (1, 0, σ)
def xp_roster (σ : xs_S) (a b : Int32) : Nat × Int32 × xs_S := if xm_in8 a = true ∧ xm_in8 b = true then (0, xs_mk σ (xs_ix a) (xs_ix b), σ) else (1, 0, σ)
def xp_connection (σ : xs_S) (c w : Int32) : Nat × Int32 × xs_S :=
  if xm_in6 c = true then (if w = 0 then (0, (xs_cn σ (xs_ix c)).1, σ) else if w = 1 then (0, (xs_cn σ (xs_ix c)).2.1, σ) else if w = 2 then (0, (xs_cn σ (xs_ix c)).2.2.1, σ)
    else if w = 3 then (0, xs_b (xs_cn σ (xs_ix c)).2.2.2.2.2, σ) else if w = 4 then (0, nI (xs_q σ (8 + xs_ix c)).length, σ) else (1, 0, σ)) else (1, 0, σ)
def xp_count (σ : xs_S) (w : Int32) : Nat × Int32 × xs_S :=
  if w = 0 then (0, xm_kall 8 0 σ 0, σ) else if w = 1 then (0, nI (xs_q σ 14).length, σ) else if w = 2 then (0, xm_lall 6 0 σ 0, σ) else if w = 3 then (0, xs_b (xs_up σ), σ)
  else if ¬ w < 4 ∧ ¬ 12 ≤ w then (0, nI (xs_q σ (xs_ix (w - 4))).length, σ) else (1, 0, σ)
end
section
/-! What sending leaves alone: accounts, connections, link, challenges, the stanza taken last. -/
def xm_same (σ τ : xs_S) : Prop := xs_ac τ = xs_ac σ ∧ xs_cn τ = xs_cn σ ∧ xs_up τ = xs_up σ ∧ xs_nx τ = xs_nx σ ∧ xs_lt τ = xs_lt σ
theorem xm_same.rf {σ : xs_S} : xm_same σ σ := ⟨rfl, rfl, rfl, rfl, rfl⟩
theorem xm_same.tr {σ τ υ : xs_S} (h : xm_same σ τ) (k : xm_same τ υ) : xm_same σ υ := ⟨k.1.trans h.1, k.2.1.trans h.2.1, k.2.2.1.trans h.2.2.1, k.2.2.2.1.trans h.2.2.2.1, k.2.2.2.2.trans h.2.2.2.2⟩
theorem xm_same.ite {σ τ : xs_S} {P : Prop} [Decidable P] (h : xm_same σ τ) : xm_same σ (if P then τ else σ) := by
  split
  · exact h
  · exact xm_same.rf
theorem xm_same_sq {σ : xs_S} {n : Nat} {l : List xs_Z} {w : Int32} : xm_same σ (xs_sq σ n l w) := ⟨rfl, rfl, rfl, rfl, rfl⟩
theorem xm_same_smk {σ : xs_S} {a b : Nat} {w : Int32} : xm_same σ (xs_smk σ a b w) := ⟨rfl, rfl, rfl, rfl, rfl⟩
theorem xm_same_add {σ : xs_S} {n : Nat} {z : xs_Z} : xm_same σ (xm_add σ n z) := by
  unfold xm_add
  split <;> exact xm_same_sq
theorem xm_same_pop {σ : xs_S} {n : Nat} : xm_same σ (xm_pop σ n) := xm_same_sq
theorem xm_same_mark {σ : xs_S} {a b : Nat} {w : Int32} : xm_same σ (xm_mark σ a b w) := xm_same_smk
theorem xm_same_drop {σ : xs_S} {a b : Nat} {w : Int32} : xm_same σ (xm_drop σ a b w) := xm_same_smk
theorem xm_same_give (n : Nat) : ∀ {i : Nat} {σ : xs_S} {z : xs_Z}, xm_same σ (xm_give n i σ z) := by
  induction n with
  | zero => intro i σ z; exact xm_same.rf
  | succ n ih => intro i σ z; exact (xm_same_add.ite).tr ih
theorem xm_same_gp (n : Nat) : ∀ {i : Nat} {σ : xs_S} {z : xs_Z} {p : Int32}, xm_same σ (xm_gp n i σ z p) := by
  induction n with
  | zero => intro i σ z p; exact xm_same.rf
  | succ n ih => intro i σ z p; exact (xm_same_add.ite).tr ih
theorem xm_same_err {σ : xs_S} {z : xs_Z} : xm_same σ (xm_err σ z) := xm_same_give 6
theorem xm_same_msg2 {σ : xs_S} {z : xs_Z} : xm_same σ (xm_msg2 σ z) := by
  unfold xm_msg2
  split
  · exact xm_same_gp 6
  · split
    · exact xm_same_add
    · exact xm_same_err
theorem xm_same_msg {σ : xs_S} {z : xs_Z} : xm_same σ (xm_msg σ z) := by
  unfold xm_msg
  split
  · exact xm_same_msg2
  · split
    · exact xm_same_add
    · exact xm_same_msg2
theorem xm_same_grant {σ : xs_S} {z : xs_Z} : xm_same σ (xm_grant σ z) := by
  unfold xm_grant
  split
  · exact (xm_same_mark.tr xm_same_drop).tr (xm_same_give 6)
  · exact xm_same.rf
theorem xm_same_ask {σ : xs_S} {z : xs_Z} : xm_same σ (xm_ask σ z) := by
  unfold xm_ask
  split
  · exact xm_same_grant
  · split
    · exact xm_same_mark.tr (xm_same_give 6)
    · exact xm_same.rf
theorem xm_same_end {σ : xs_S} {z : xs_Z} {w : Int32} : xm_same σ (xm_end σ z w) := by
  unfold xm_end
  split
  · exact xm_same_drop.tr (xm_same_give 6)
  · exact xm_same.rf
theorem xm_same_arr {σ : xs_S} {z : xs_Z} : xm_same σ (xm_arr σ z) := by
  unfold xm_arr
  repeat' split
  all_goals first | exact xm_same_msg | exact xm_same_ask | exact xm_same_grant | exact xm_same_end | exact xm_same_give 6 | exact xm_same.rf
theorem xm_same_send {σ : xs_S} {z : xs_Z} : xm_same σ (xm_send σ z) := by
  unfold xm_send
  repeat' split
  all_goals first | exact xm_same_arr | exact xm_same_add | exact xm_same_err | exact xm_same.rf
theorem xm_same_stw (n : Nat) : ∀ {j : Nat} {σ : xs_S} {a i : Nat} {k : Int32}, xm_same σ (xm_stw n j σ a i k) := by
  induction n with
  | zero => intro j σ a i k; exact xm_same.rf
  | succ n ih => intro j σ a i k; exact (xm_same_send.ite).tr ih
theorem xm_same_sp (n : Nat) : ∀ {i : Nat} {σ : xs_S} {a t k : Int32}, xm_same σ (xm_sp n i σ a t k) := by
  induction n with
  | zero => intro i σ a t k; exact xm_same.rf
  | succ n ih => intro i σ a t k; exact (xm_same_send.ite).tr ih
theorem xm_same_sco (n : Nat) : ∀ {i : Nat} {σ : xs_S} {w : Int32} {c : Nat}, xm_same σ (xm_sco n i σ w c) := by
  induction n with
  | zero => intro i σ w c; exact xm_same.rf
  | succ n ih => intro i σ w c; exact (xm_same_add.ite).tr ih
theorem xm_same_so (n : Nat) : ∀ {j : Nat} {σ : xs_S} {a c : Nat}, xm_same σ (xm_so n j σ a c) := by
  induction n with
  | zero => intro j σ a c; exact xm_same.rf
  | succ n ih => intro j σ a c; exact ((xm_same_sco 6).ite).tr ih
theorem xm_same_hk (n : Nat) : ∀ {σ : xs_S} {a c : Nat}, xm_same σ (xm_hk n σ a c) := by
  induction n with
  | zero => intro σ a c; exact xm_same.rf
  | succ n ih => intro σ a c; exact (xm_same_pop.tr xm_same_add).tr ih
theorem xm_same_com {σ : xs_S} {a b : Nat} {k : Int32} : xm_same σ (xm_com σ a b k) := by
  unfold xm_com
  repeat' split
  all_goals first | exact xm_same.rf | exact xm_same_mark | exact xm_same_drop | exact xm_same_mark.tr xm_same_drop
theorem xm_same_lk (n : Nat) : ∀ {σ : xs_S}, xm_same σ (xm_lk n σ) := by
  induction n with
  | zero => intro σ; exact xm_same.rf
  | succ n ih => intro σ; exact (xm_same_pop.tr xm_same_arr).tr ih
/-- a stanza that may be sent: both its accounts are there -/
def xm_ok (z : xs_Z) : Prop := vp_in z.2.1 8 ∧ vp_in z.2.2.2.2.1 8
def xm_wf (σ : xs_S) : Prop := (∀ i, i < 6 → (xs_cn σ i).2.2.2.2.2 = true → (xs_cn σ i).1 = 4) ∧ (∀ i, i < 6 → ((xs_cn σ i).1 = 2 ∨ (xs_cn σ i).1 = 3 ∨ (xs_cn σ i).1 = 4) → vp_in (xs_cn σ i).2.1 8) ∧ ∀ z, z ∈ xs_q σ 14 → xm_ok z
theorem xs_cn_scn {σ : xs_S} {i : Nat} {v : xs_C} : xs_cn (xs_scn σ i v) i = v := va_up_self _ _ _
theorem xs_nx_scn {σ : xs_S} {i : Nat} {v : xs_C} : xs_nx (xs_scn σ i v) = xs_nx σ := rfl
theorem xs_up_scn {σ : xs_S} {i : Nat} {v : xs_C} : xs_up (xs_scn σ i v) = xs_up σ := rfl
theorem xs_lt_scn {σ : xs_S} {i : Nat} {v : xs_C} : xs_lt (xs_scn σ i v) = xs_lt σ := rfl
theorem xs_q_scn {σ : xs_S} {i : Nat} {v : xs_C} : xs_q (xs_scn σ i v) = xs_q σ := rfl
theorem xs_ac_scn {σ : xs_S} {i : Nat} {v : xs_C} : xs_ac (xs_scn σ i v) = xs_ac σ := rfl
theorem xs_mk_scn {σ : xs_S} {i : Nat} {v : xs_C} : xs_mk (xs_scn σ i v) = xs_mk σ := rfl
theorem xs_ac_sac {σ : xs_S} {i : Nat} {v : Bool × Int32} : xs_ac (xs_sac σ i v) i = v := va_up_self _ _ _
theorem xs_up2 {α : Type} (f : Nat → α) (k : Nat) (v w : α) : va_up (va_up f k v) k w = va_up f k w := by
  funext j
  by_cases h : j = k
  · subst h
    rw [va_up_self, va_up_self]
  · rw [va_up_ne _ _ h, va_up_ne _ _ h, va_up_ne _ _ h]
theorem xs_sac_sac {σ : xs_S} {i : Nat} {v w : Bool × Int32} : xs_sac (xs_sac σ i v) i w = xs_sac σ i w := by
  show (va_up (va_up (xs_ac σ) i v) i w, _) = _
  rw [xs_up2]
  rfl
theorem xs_nx_sg {σ : xs_S} {u : Bool} {n : Int32} {t : Option xs_Z} : xs_nx (xs_sg σ u n t) = n := rfl
theorem xs_up_sg {σ : xs_S} {u : Bool} {n : Int32} {t : Option xs_Z} : xs_up (xs_sg σ u n t) = u := rfl
theorem xs_lt_sg {σ : xs_S} {u : Bool} {n : Int32} {t : Option xs_Z} : xs_lt (xs_sg σ u n t) = t := rfl
theorem xs_cn_sg {σ : xs_S} {u : Bool} {n : Int32} {t : Option xs_Z} : xs_cn (xs_sg σ u n t) = xs_cn σ := rfl
theorem xs_q_sg {σ : xs_S} {u : Bool} {n : Int32} {t : Option xs_Z} : xs_q (xs_sg σ u n t) = xs_q σ := rfl
theorem xm_av_ac {σ : xs_S} {i : Nat} {x : Int32} (h : xm_av σ i x = true) : (xs_cn σ i).2.1 = x := by
  unfold xm_av at h
  rw [Bool.and_eq_true, decide_eq_true_eq] at h
  exact h.2
theorem xm_sav_ac {σ : xs_S} {i : Nat} {b : Bool} : (xs_cn (xm_sav σ i b) i).2.1 = (xs_cn σ i).2.1 := by
  unfold xm_sav
  rw [xs_cn_scn]
theorem xm_q_sq_ne {σ : xs_S} {n k : Nat} {l : List xs_Z} {w : Int32} (h : k ≠ n) : xs_q (xs_sq σ n l w) k = xs_q σ k := va_up_ne _ _ h
theorem xm_q_add_ne {σ : xs_S} {n k : Nat} {z : xs_Z} (h : k ≠ n) : xs_q (xm_add σ n z) k = xs_q σ k := by
  unfold xm_add
  split <;> exact xm_q_sq_ne h
theorem xm_q_pop {σ : xs_S} {n : Nat} : xs_q (xm_pop σ n) n = (xs_q σ n).tail := va_up_self _ _ _
theorem xm_ne {l : List xs_Z} {n : Nat} (h : l.length = n + 1) : ∃ z t, l = z :: t := by
  cases l with
  | nil => cases h
  | cons z t => exact ⟨z, t, rfl⟩
theorem xm_q14_give (n : Nat) : ∀ {i : Nat} {σ : xs_S} {z : xs_Z}, i + n ≤ 6 → xs_q (xm_give n i σ z) 14 = xs_q σ 14 := by
  induction n with
  | zero => intro i σ z _; rfl
  | succ n ih =>
    intro i σ z h
    show xs_q (xm_give n (i + 1) _ z) 14 = _
    rw [ih (by omega)]
    split
    · exact xm_q_add_ne (by omega)
    · rfl
theorem xm_q14_gp (n : Nat) : ∀ {i : Nat} {σ : xs_S} {z : xs_Z} {p : Int32}, i + n ≤ 6 → xs_q (xm_gp n i σ z p) 14 = xs_q σ 14 := by
  induction n with
  | zero => intro i σ z p _; rfl
  | succ n ih =>
    intro i σ z p h
    show xs_q (xm_gp n (i + 1) _ z p) 14 = _
    rw [ih (by omega)]
    split
    · exact xm_q_add_ne (by omega)
    · rfl
theorem xm_bw_lt (n : Nat) : ∀ {i k : Nat} {σ : xs_S} {a r : Int32}, xm_bw n i σ a r = some k → k < i + n := by
  induction n with
  | zero => intro i k σ a r h; cases h
  | succ n ih =>
    intro i k σ a r h
    unfold xm_bw at h
    split at h
    · cases h; omega
    · have := ih h; omega
theorem xm_q14_msg2 {σ : xs_S} {z : xs_Z} (h : xm_ok z) : xs_q (xm_msg2 σ z) 14 = xs_q σ 14 := by
  unfold xm_msg2
  have := xs_ixl h.2
  split
  · exact xm_q14_gp 6 (by decide)
  · split
    · exact xm_q_add_ne (by omega)
    · exact xm_q14_give 6 (by decide)
theorem xm_q14_msg {σ : xs_S} {z : xs_Z} (h : xm_ok z) : xs_q (xm_msg σ z) 14 = xs_q σ 14 := by
  unfold xm_msg
  split
  · exact xm_q14_msg2 h
  · rename_i i hi
    have := xm_bw_lt 6 hi
    split
    · exact xm_q_add_ne (by omega)
    · exact xm_q14_msg2 h
theorem xm_q14_grant {σ : xs_S} {z : xs_Z} : xs_q (xm_grant σ z) 14 = xs_q σ 14 := by
  unfold xm_grant
  split
  · exact xm_q14_give 6 (by decide)
  · rfl
theorem xm_q14_arr {σ : xs_S} {z : xs_Z} (h : xm_ok z) : xs_q (xm_arr σ z) 14 = xs_q σ 14 := by
  unfold xm_arr
  split
  · exact xm_q14_msg h
  · split
    · unfold xm_ask
      split
      · exact xm_q14_grant
      · split
        · exact xm_q14_give 6 (by decide)
        · rfl
    · split
      · exact xm_q14_grant
      · split
        · unfold xm_end
          split
          · exact xm_q14_give 6 (by decide)
          · rfl
        · split
          · unfold xm_end
            split
            · exact xm_q14_give 6 (by decide)
            · rfl
          · split
            · split
              · exact xm_q14_give 6 (by decide)
              · rfl
            · rfl
end
section
/-! Rows over one cell at a time: what is read, what is written, what else stays. -/
section XB
variable {p : Program} {l : Launch} {e : Env} {R : Room} {s : State} {m : MethodId} {args : Array Value} {below : List Frame} {meth : Method} {c : Code} {H : Heap} {locs : List Loc} {cells slots : Nat} {Q : State → Prop}
variable {cc : ByteArray} {pc : Nat} {ls : Array Slot} {rest : List Value} {D : va_G} {cl : List vw_C} {a : Nat} {tys : List (ClassId × FieldType)}
theorem xb_one {q : Nat × va_E} (h : va_at D cl q H) : va_P D cl [q] H := by
  intro k x hx
  cases k with
  | zero => cases hx; exact h
  | succ k => simp at hx
theorem xb_get (hexec : p.tables.exec = Jvm.exec) (hb : c.code = cc) {own ref C : String} {T : u_T} {N ci index : Nat} {Ts : List Cond} (hts : ∀ w ∈ Ts, w.before args s = true) (hin : ∀ w ∈ u_ws C T N, w ∈ Ts) (hown : s.vm.findClass own = some m.cls) (hK : va_K D cl tys s) (hc : cl[ci]? = some (C, T, N)) (k : Nat) (hk : k < N) (hlink : (Cond.fieldLink own index ref (T k).2.1 (T k).2.2.1).before args s = true) (hsame : (T k).1 = ref) {fs : List Value} (hat : va_at D cl (a, .inr (ci, fs)) H) {v : Value} (hv : fs[k]? = some v) (hdg : decode cc pc = .ok (.getfield index, 3))
    (kk : W p l e R s m args below meth c H locs cells slots Q (F0 m (pc + 3) ls (v :: rest))) : W p l e R s m args below meth c H locs cells slots Q (F0 m pc ls (.ref a :: rest)) :=
  va_get hexec hb hts hin hown hK (xb_one hat) 0 rfl hc k hk hlink (fun x h => by rw [← hsame]; exact h) hv hdg kk
theorem xb_put (hexec : p.tables.exec = Jvm.exec) (hb : c.code = cc) {own ref C : String} {T : u_T} {N ci index : Nat} {Ts : List Cond} (hts : ∀ w ∈ Ts, w.before args s = true) (hin : ∀ w ∈ u_ws C T N, w ∈ Ts) (ty0 : Nat → FieldType) (hty : ∀ k, k < N → parseFieldDescriptor (T k).2.2.1 = some (ty0 k)) (hnm : ∀ a, a < N → ∀ b, b < N → a ≠ b → (T a).2.1 ≠ (T b).2.1) (hown : s.vm.findClass own = some m.cls) (hK : va_K D cl tys s) (hc : cl[ci]? = some (C, T, N)) (k : Nat) (hk : k < N) (hlink : (Cond.fieldLink own index ref (T k).2.1 (T k).2.2.1).before args s = true) (hsame : (T k).1 = ref) (hfin : (T k).2.2.2 = false) {fs : List Value} (hat : va_at D cl (a, .inr (ci, fs)) H) {v : Value} (hn : narrow (ty0 k) v = v) (hfit : fits (ty0 k) v = true) (hl : k < fs.length) (hdg : decode cc pc = .ok (.putfield index, 3))
    (kk : ∀ (H1 : Heap) (lc : Loc), lc.base = a → va_at D cl (a, .inr (ci, fs.set k v)) H1 → H1.size = H.size → (∀ q : Nat, q ≠ a → H1[q]? = H[q]?) → W p l e R s m args below meth c H1 (locs ++ [lc]) cells slots Q (F0 m (pc + 3) ls rest)) : W p l e R s m args below meth c H locs cells slots Q (F0 m pc ls (v :: .ref a :: rest)) := by
  have hap := va_apart (own := own) hts hin ty0 hty hnm hK hc
  obtain ⟨r, h1, cell, q1, q2, q3, q4⟩ := hat
  have hr : r = (C, T, N) := Option.some.inj (h1.symm.trans hc)
  subst hr
  obtain ⟨hS, hfc, kC, hkC, hkind⟩ := hK.1 ci _ hc
  obtain ⟨cf, kf, fi, f, hi, hsl⟩ := hS k hk
  have hlay := hts _ (hin _ (u_in_lay hk))
  unfold u_lay at hlay
  rw [if_neg (by rw [hfin]; decide)] at hlay
  have hst := (u_facts hfc hkC (u_lays hts hin hk) hi).1
  have h6 := u_store hfc hkC hkind hlay hi (hty k hk) hn hfit
  refine W.putK hexec hb (f := f) ⟨hown, hlink, ⟨_, _, _, by rw [← hsame]; exact hi⟩, hst⟩ (by rw [q2]; exact h6) q1 q3 (by rw [hsl]; exact k2_hasslot (q4 k hk)) rfl rfl hdg fun H' e1 e2 e3 => ?_
  rw [hsl] at e1 ⊢
  exact kk H' _ rfl ⟨_, hc, t_OB.to (V := updV (vp_V fs) k v) ⟨_, e1, q2, q3, t_set q4 hap hk v⟩ (fun j _ => vp_updV_set hl v j)⟩ e2 e3
theorem xb_putF (hexec : p.tables.exec = Jvm.exec) (hb : c.code = cc) {own ref C : String} {T : u_T} {N ci index : Nat} {Ts : List Cond} (hts : ∀ w ∈ Ts, w.before args s = true) (hin : ∀ w ∈ u_ws C T N, w ∈ Ts) (ty0 : Nat → FieldType) (hty : ∀ k, k < N → parseFieldDescriptor (T k).2.2.1 = some (ty0 k)) (hnm : ∀ a, a < N → ∀ b, b < N → a ≠ b → (T a).2.1 ≠ (T b).2.1) (hown : s.vm.findClass own = some m.cls) (hK : va_K D cl tys s) (hc : cl[ci]? = some (C, T, N)) (k : Nat) (hk : k < N) (hlink : (Cond.fieldLink own index ref (T k).2.1 (T k).2.2.1).before args s = true) (hsame : (T k).1 = ref) (hfin : (T k).2.2.2 = true) (hin2 : meth.name = "<init>") (hdecl : (T k).1 = own) {fs : List Value} (hat : va_at D cl (a, .inr (ci, fs)) H) {v : Value} (hn : narrow (ty0 k) v = v) (hfit : fits (ty0 k) v = true) (hl : k < fs.length) (hdg : decode cc pc = .ok (.putfield index, 3))
    (kk : ∀ (H1 : Heap) (lc : Loc), lc.base = a → va_at D cl (a, .inr (ci, fs.set k v)) H1 → H1.size = H.size → (∀ q : Nat, q ≠ a → H1[q]? = H[q]?) → W p l e R s m args below meth c H1 (locs ++ [lc]) cells slots Q (F0 m (pc + 3) ls rest)) : W p l e R s m args below meth c H locs cells slots Q (F0 m pc ls (v :: .ref a :: rest)) := by
  have hap := va_apart (own := own) hts hin ty0 hty hnm hK hc
  obtain ⟨r, h1, cell, q1, q2, q3, q4⟩ := hat
  have hr : r = (C, T, N) := Option.some.inj (h1.symm.trans hc)
  subst hr
  obtain ⟨hS, hfc, kC, hkC, hkind⟩ := hK.1 ci _ hc
  obtain ⟨cf, kf, fi, f, hi, hsl⟩ := hS k hk
  have hlay := hts _ (hin _ (u_in_lay hk))
  unfold u_lay at hlay
  rw [if_pos hfin] at hlay
  have hst := (u_facts hfc hkC (u_lays hts hin hk) hi).1
  have hcf : m.cls = cf := by
    obtain ⟨_, _, c', _, _, _, -, -, hf', -, -, -, hown2, -⟩ := Cond.laysFinal_spec hlay
    have e1 : c' = cf := by have := hi.symm.trans hf'; simp at this; exact this.1.symm
    rw [hdecl] at hown2
    rw [← e1]; exact Option.some.inj (hown.symm.trans hown2)
  have h6 := u_fits hfc hkC hkind (Or.inr hlay) hi (hty k hk) hn hfit
  refine W.putFinK hexec hb hown hlink (by rw [← hsame]; exact hi) hst hcf hin2 (by rw [q2]; exact h6) q1 q3 (by rw [hsl]; exact k2_hasslot (q4 k hk)) rfl rfl hdg fun H' e1 e2 e3 => ?_
  rw [hsl] at e1 ⊢
  exact kk H' _ rfl ⟨_, hc, t_OB.to (V := updV (vp_V fs) k v) ⟨_, e1, q2, q3, t_set q4 hap hk v⟩ (fun j _ => vp_updV_set hl v j)⟩ e2 e3
theorem xb_new (hexec : p.tables.exec = Jvm.exec) (hb : c.code = cc) {own C : String} {T : u_T} {N ci index : Nat} {Ts : List Cond} (hts : ∀ w ∈ Ts, w.before args s = true) (hin : ∀ w ∈ u_ws C T N, w ∈ Ts) (ty : Nat → FieldType) (hty : ∀ k, k < N → parseFieldDescriptor (T k).2.2.1 = some (ty k)) (hown : s.vm.findClass own = some m.cls) (hcl : (Cond.classLink own index C).before args s = true) (hinst : (Cond.instantiable C N).before args s = true) (hini : (Cond.initialized C).before args s = true)
    (hK : va_K D cl tys s) (hc : cl[ci]? = some (C, T, N)) {fs : List Value} (hfs : ∀ j, j < N → defaultValue (ty j) = vp_V fs j) (hcells : cells + 1 ≤ R.cells) (hslots : slots + N ≤ R.slots) (hdg : decode cc pc = .ok (.new index, 3))
    (kk : ∀ (H1 : Heap), va_at D cl (H.size, .inr (ci, fs)) H1 → H1.size = H.size + 1 → (∀ q : Nat, q < H.size → H1[q]? = H[q]?) →
      W p l e R s m args below meth c H1 locs (cells + 1) (slots + N) Q (F0 m (pc + 3) ls (.ref H.size :: rest))) : W p l e R s m args below meth c H locs cells slots Q (F0 m pc ls rest) := by
  have hKn := hK.1 ci _ hc
  refine W.newcK hexec hb hown hcl hinst hini rfl hdg hcells hslots hKn.2.1 rfl fun H1 kC hkC e1 z1 o1 => ?_
  exact kk H1 ⟨_, hc, (u_born ty hts hin hKn hkC e1 hty).to hfs⟩ z1 o1
theorem xb_aald (hexec : p.tables.exec = Jvm.exec) (hb : c.code = cc) (hK : va_K D cl tys s) (t0 : Nat) {cA : ClassId} {C : String} {n : Nat} {f : Nat → Option Nat} (ht : tys[t0]? = some (cA, .object C)) (hat : va_at D cl (a, .inl (cA, n, .inr (.inr (.inr (.inr f))))) H) {i : Int32} (hin : vp_in i n) {v : Nat} (hv : f i.toNatClampNeg = some v) (hdg : decode cc pc = .ok (.aaload, 1))
    (kk : W p l e R s m args below meth c H locs cells slots Q (F0 m (pc + 1) ls (.ref v :: rest))) : W p l e R s m args below meth c H locs cells slots Q (F0 m pc ls (.int i :: .ref a :: rest)) :=
  va_aldq hexec hb hK (xb_one hat) 0 t0 rfl ht hin hdg (by rw [hv]; exact kk)
theorem xb_iald (hexec : p.tables.exec = Jvm.exec) (hb : c.code = cc) (hK : va_K D cl tys s) (t0 : Nat) {cA : ClassId} {n : Nat} {f : Nat → Int32} (ht : tys[t0]? = some (cA, .int)) (hat : va_at D cl (a, .inl (cA, n, .inl f)) H) {i : Int32} (hin : vp_in i n) (hdg : decode cc pc = .ok (.iaload, 1))
    (kk : W p l e R s m args below meth c H locs cells slots Q (F0 m (pc + 1) ls (.int (f i.toNatClampNeg) :: rest))) : W p l e R s m args below meth c H locs cells slots Q (F0 m pc ls (.int i :: .ref a :: rest)) :=
  va_iald hexec hb hK (xb_one hat) 0 t0 rfl ht hin hdg kk
theorem xb_alen (hexec : p.tables.exec = Jvm.exec) (hb : c.code = cc) (hK : va_K D cl tys s) (t0 : Nat) {cA : ClassId} {x : vp_A} {ty : FieldType} (ht : tys[t0]? = some (cA, ty)) (hat : va_at D cl (a, .inl (cA, x)) H) (hdg : decode cc pc = .ok (.arraylength, 1))
    (kk : W p l e R s m args below meth c H locs cells slots Q (F0 m (pc + 1) ls (.int (nI x.1) :: rest))) : W p l e R s m args below meth c H locs cells slots Q (F0 m pc ls (.ref a :: rest)) :=
  va_alen hexec hb hK (xb_one hat) 0 t0 rfl ht rfl hdg kk
theorem xb_iast (hexec : p.tables.exec = Jvm.exec) (hb : c.code = cc) (hK : va_K D cl tys s) (t0 : Nat) {cA : ClassId} {n : Nat} {f : Nat → Int32} (ht : tys[t0]? = some (cA, .int)) (hat : va_at D cl (a, .inl (cA, n, .inl f)) H) {i : Int32} {x : Int32} (hin : vp_in i n) (hdg : decode cc pc = .ok (.iastore, 1))
    (kk : ∀ (H1 : Heap) (lc : Loc), lc.base = a → va_at D cl (a, .inl (cA, n, .inl (upd f i.toNatClampNeg x))) H1 → H1.size = H.size → (∀ q : Nat, q ≠ a → H1[q]? = H[q]?) → W p l e R s m args below meth c H1 (locs ++ [lc]) cells slots Q (F0 m (pc + 1) ls rest)) : W p l e R s m args below meth c H locs cells slots Q (F0 m pc ls (.int x :: .int i :: .ref a :: rest)) := by
  refine W.iast hexec hb hat ((hK.2 t0 _ ht).1 n (fun j => .int (f j))) (fun q => by cases q) (by show ¬ (i < 0 ∨ (arrV _ _ _).slots.size ≤ _); rw [arrV_size]; exact hin) rfl rfl hdg fun H1 e z oq => ?_
  refine kk H1 _ rfl ?_ z oq
  show H1[a]? = some (vp_cell _ _)
  rw [e]
  rw [vp_cell_i, vp_cell_i, arrV_store]
  congr 2
  funext q
  by_cases hq : q = i.toNatClampNeg
  · subst hq
    simp [updV, upd]
  · simp [updV, upd, hq]
theorem xb_aast (hexec : p.tables.exec = Jvm.exec) (hb : c.code = cc) (hK : va_K D cl tys s) (t0 ci : Nat) {cA : ClassId} {r : vw_C} {n v : Nat} {vs : List Value} {f : Nat → Option Nat} (ht : tys[t0]? = some (cA, .object r.1)) (hc : cl[ci]? = some r) (hat : va_at D cl (a, .inl (cA, n, .inr (.inr (.inr (.inr f))))) H) (hv : va_at D cl (v, .inr (ci, vs)) H) {i : Int32} (hin : vp_in i n) (hdg : decode cc pc = .ok (.aastore, 1))
    (kk : ∀ (H1 : Heap) (lc : Loc), lc.base = a → va_at D cl (a, .inl (cA, n, .inr (.inr (.inr (.inr (va_up f i.toNatClampNeg (some v))))))) H1 → H1.size = H.size → (∀ q : Nat, q ≠ a → H1[q]? = H[q]?) → W p l e R s m args below meth c H1 (locs ++ [lc]) cells slots Q (F0 m (pc + 1) ls rest)) : W p l e R s m args below meth c H locs cells slots Q (F0 m pc ls (.ref v :: .int i :: .ref a :: rest)) := by
  have hlt : i.toNatClampNeg < n := Nat.not_le.mp fun q => hin (Or.inr q)
  have h0 : ¬ i < 0 := fun q => hin (Or.inl q)
  obtain ⟨r', hr', cellV, g1, g2, g3, -⟩ := hv
  have hcls := (hK.1 ci r hc).2
  obtain ⟨kA, comp, k1, k2, k3, -⟩ := (hK.2 t0 _ ht).2
  have hcomp : comp = D.1 ci := Option.some.inj (k3.symm.trans hcls.1)
  subst hcomp
  obtain ⟨kC, hkC, -⟩ := hcls.2
  refine W.aast hexec hb hat (fun q h => by cases h) (fun h => by cases h) k1 k2 rfl hkC ⟨h0, by show _ < (arrV _ _ _).slots.size; rw [arrV_size]; exact hlt⟩ g1 (fun q h => by rw [g3] at h; cases h) (by rw [g2]; exact hkC) (by rw [g2]; exact va_assign hcls) rfl rfl hdg fun H1 e z oq => ?_
  refine kk H1 _ rfl ?_ z oq
  show H1[a]? = some (vp_cell _ _)
  rw [e]
  rw [vp_cell_q, vp_cell_q, arrV_store]
  congr 2
  funext q
  by_cases hq : q = i.toNatClampNeg
  · subst hq
    simp [updV, va_up, va_rf]
  · simp [updV, va_up, hq]
theorem xb_anew (hexec : p.tables.exec = Jvm.exec) (hb : c.code = cc) {own C : String} {index : Nat} (hown : s.vm.findClass own = some m.cls) (hclink : (Cond.classLink own index C).before args s = true) (hover : (Cond.arrayOver (.object C)).before args s = true) (hK : va_K D cl tys s) (t0 : Nat) {cA : ClassId} (ht : tys[t0]? = some (cA, .object C))
    {n : Int32} {N' : Nat} (hn : ¬ n < 0) (hN : n.toNatClampNeg = N') (hbytes : N' * 4 ≤ 536870912) (hcells : cells + 1 ≤ R.cells) (hslots : slots + N' ≤ R.slots) (hdg : decode cc pc = .ok (.anewarray index, 3))
    (kk : ∀ (H1 : Heap), va_at D cl (H.size, .inl (cA, N', .inr (.inr (.inr (.inr (fun _ => none)))))) H1 → H1.size = H.size + 1 → (∀ q : Nat, q < H.size → H1[q]? = H[q]?) →
      W p l e R s m args below meth c H1 locs (cells + 1) (slots + N') Q (F0 m (pc + 3) ls (.ref H.size :: rest))) : W p l e R s m args below meth c H locs cells slots Q (F0 m pc ls (.int n :: rest)) := by
  subst hN
  refine W.anew hexec hb hown hclink hover rfl hdg rfl hn hbytes hcells hslots fun cA' kA comp f1 f2 f3 f4 => ?_
  obtain ⟨_, _, k1, k2, k3, k4⟩ := (hK.2 t0 _ ht).2
  cases Option.some.inj (k4.symm.trans f1)
  generalize hH1 : H.push ({ cls := cA, slots := Array.replicate n.toNatClampNeg .null, vm := .none } : Cell) = H1
  have z1 : H1.size = H.size + 1 := by rw [← hH1, Array.size_push]
  have e1 : H1[H.size]? = some (arrV cA n.toNatClampNeg (fun _ => .null)) := by rw [← hH1, Array.getElem?_push_size, ← arrV_new]
  have o1 : ∀ q : Nat, q < H.size → H1[q]? = H[q]? := fun q hq => by rw [← hH1, Array.getElem?_push, if_neg (Nat.ne_of_lt hq)]
  refine kk H1 ?_ z1 o1
  show H1[H.size]? = some (vp_cell _ _)
  rw [vp_cell_q]
  exact e1
theorem xb_newa (hexec : p.tables.exec = Jvm.exec) (hb : c.code = cc) (harr : (Cond.arrayClass .int).before args s = true) (hK : va_K D cl tys s) (t0 : Nat) {cA : ClassId} (ht : tys[t0]? = some (cA, .int))
    {n : Int32} {N' : Nat} (hn : ¬ n < 0) (hN : n.toNatClampNeg = N') (hbytes : N' * componentBytes .int ≤ 536870912) (hcells : cells + 1 ≤ R.cells) (hslots : slots + N' ≤ R.slots) (hdg : decode cc pc = .ok (.newarray .int, 2))
    (kk : ∀ (H1 : Heap), va_at D cl (H.size, .inl (cA, N', .inl (fun _ => 0))) H1 → H1.size = H.size + 1 → (∀ q : Nat, q < H.size → H1[q]? = H[q]?) →
      W p l e R s m args below meth c H1 locs (cells + 1) (slots + N') Q (F0 m (pc + 2) ls (.ref H.size :: rest))) : W p l e R s m args below meth c H locs cells slots Q (F0 m pc ls (.int n :: rest)) := by
  refine va_newaK (atype := .int) (g := F0 m pc ls (.int n :: rest)) (n := n) (N := N') (rest := rest) (h := H.size) hexec hb harr rfl hdg rfl hn hN hbytes hcells hslots rfl (fun H1 cA' e1 z1 o1 hAr hNm => ?_)
  have k4 := (hK.2 t0 _ ht).2
  cases Option.some.inj ((show s.vm.findClass ("[" ++ FieldType.int.toString) = some cA from k4).symm.trans hNm)
  exact kk H1 e1 z1 o1
theorem xb_recv {ci : Nat} {q : vw_C} {fs : List Value} (hK : va_K D cl tys s) (hc : cl[ci]? = some q) (hat : va_at D cl (a, .inr (ci, fs)) H) : ∃ cell : Cell, H[a]? = some cell ∧ cell.vm.isStatics = false ∧ s.vm.findClass q.1 = some cell.cls :=
  va_recv (q0 := 0) hK (xb_one hat) hc rfl
end XB
/-! Ends and calls: one form for all answers. -/
def xb_Q (B : Value → State → Prop) (A : Nat → Prop) : Array Value → State → Outcome → State → Prop := fun _ st oc t => (∃ v : Value, oc = .returned (some v) ∧ B v t) ∧ va_F A st t
def xb_V (B : State → Prop) (A : Nat → Prop) : Array Value → State → Outcome → State → Prop := fun _ st oc t => (oc = .returned none ∧ B t) ∧ va_F A st t
section XC
variable {p : Program} {l : Launch} {e : Env} {R : Room} {s : State} {m : MethodId} {args : Array Value} {below : List Frame} {meth : Method} {c : Code} {H : Heap} {locs : List Loc} {cells slots : Nat} {Q : State → Prop}
variable {pc : Nat} {ls : Array Slot} {rest st0 : List Value} {a : Array Value} {A0 A1 : Nat → Prop} {H0 : Heap} {mc ms : Nat} {free : Addr → Prop}
theorem xb_keep {st₀ t T' : State} {L : List Loc} (h0 : st₀.heap = H) (e1 : T'.heap = t.heap) (hS : va_S A0 H0 H locs) (hA : ∀ q, A1 q → A0 q) (hf : ∀ q, free q → A0 q) (hL : ∀ q ∈ L, free q.base) (hF : va_F A1 st₀ t) :
    H.size ≤ T'.heap.size ∧ (∀ q : Nat, q < H.size → ¬ A1 q → T'.heap[q]? = H[q]?) ∧ va_S A0 H0 T'.heap (locs ++ L) := by
  obtain ⟨hz, hk⟩ := hF
  rw [h0] at hz hk
  exact ⟨by rw [e1]; exact hz, fun q h1 h2 => by rw [e1]; exact hk q h1 h2,
    ⟨Nat.le_trans hS.1 (by rw [e1]; exact hz), fun q h1 h2 => by rw [e1, hk q (Nat.lt_of_lt_of_le h1 hS.1) (fun z => h2 (hA q z))]; exact hS.2.1 q h1 h2, fun q hq => by
      rcases List.mem_append.mp hq with h | h
      · exact hS.2.2 q h
      · exact hf _ (hL q h)⟩⟩
theorem xb_callq {B : Value → State → Prop} (hr : va_Run p l e R s m args below meth c H locs cells slots mc ms (F0 m pc ls st0) rest (xb_Q B A1 a) free) (hS : va_S A0 H0 H locs) (hA : ∀ q, A1 q → A0 q) (hf : ∀ q, free q → A0 q)
    (kk : ∀ (v : Value) (t : State) (locs1 : List Loc), s.vm.Alike t.vm → B v t → H.size ≤ t.heap.size → (∀ q : Nat, q < H.size → ¬ A1 q → t.heap[q]? = H[q]?) → va_S A0 H0 t.heap locs1 → W p l e R s m args below meth c t.heap locs1 (cells + mc) (slots + ms) Q (F0 m (pc + 3) ls (v :: rest))) : W p l e R s m args below meth c H locs cells slots Q (F0 m pc ls st0) := by
  intro T hT X
  obtain ⟨v, st₀, t, T', L, h0, X', hL, e1, e2, ⟨⟨v', hv, hb⟩, hF⟩, st⟩ := hr T hT X
  cases hv
  obtain ⟨k1, k2, k3⟩ := xb_keep h0 e1 hS hA hf hL hF
  rw [e1] at k1 k2 k3
  obtain ⟨t2, a1, b1⟩ := kk v' t (locs ++ L) (by rw [← e2]; exact X'.warmed.alike) hb k1 k2 k3 T' e1 X'
  exact ⟨t2, st t2 a1, b1⟩
theorem xb_callv {B : State → Prop} (hr : va_Run p l e R s m args below meth c H locs cells slots mc ms (F0 m pc ls st0) rest (xb_V B A1 a) free) (hS : va_S A0 H0 H locs) (hA : ∀ q, A1 q → A0 q) (hf : ∀ q, free q → A0 q)
    (kk : ∀ (t : State) (locs1 : List Loc), s.vm.Alike t.vm → B t → H.size ≤ t.heap.size → (∀ q : Nat, q < H.size → ¬ A1 q → t.heap[q]? = H[q]?) → va_S A0 H0 t.heap locs1 → W p l e R s m args below meth c t.heap locs1 (cells + mc) (slots + ms) Q (F0 m (pc + 3) ls rest)) : W p l e R s m args below meth c H locs cells slots Q (F0 m pc ls st0) := by
  intro T hT X
  obtain ⟨v, st₀, t, T', L, h0, X', hL, e1, e2, ⟨⟨hv, hb⟩, hF⟩, st⟩ := hr T hT X
  cases hv
  obtain ⟨k1, k2, k3⟩ := xb_keep h0 e1 hS hA hf hL hF
  rw [e1] at k1 k2 k3
  obtain ⟨t2, a1, b1⟩ := kk t (locs ++ L) (by rw [← e2]; exact X'.warmed.alike) hb k1 k2 k3 T' e1 X'
  exact ⟨t2, st t2 a1, b1⟩
end XC
end
section
def R_A : String := "XmppPair$Account"
def F_A : u_T := fun k => match k with
  | 0 => ("XmppPair$Account", "marks", "[I", true)
  | 1 => ("XmppPair$Account", "kept", "LXmppPair$StanzaQueue;", true)
  | 2 => ("XmppPair$Account", "registered", "Z", false)
  | _ => ("XmppPair$Account", "password", "I", false)
def t_A : Nat → FieldType := fun k => match k with
  | 0 => .array .int
  | 1 => .object "XmppPair$StanzaQueue"
  | 2 => .boolean
  | _ => .int
theorem n_A : ∀ a, a < 4 → ∀ b, b < 4 → a ≠ b → (F_A a).2.1 ≠ (F_A b).2.1 := by decide +kernel
theorem t_A_ok : ∀ k, k < 4 → parseFieldDescriptor (F_A k).2.2.1 = some (t_A k) := by decide +kernel
def R_C : String := "XmppPair$Connection"
def F_C : u_T := fun k => match k with
  | 0 => ("XmppPair$Connection", "inbox", "LXmppPair$StanzaQueue;", true)
  | 1 => ("XmppPair$Connection", "stage", "I", false)
  | 2 => ("XmppPair$Connection", "account", "I", false)
  | 3 => ("XmppPair$Connection", "resource", "I", false)
  | 4 => ("XmppPair$Connection", "priority", "I", false)
  | 5 => ("XmppPair$Connection", "challenge", "I", false)
  | _ => ("XmppPair$Connection", "available", "Z", false)
def t_C : Nat → FieldType := fun k => match k with
  | 0 => .object "XmppPair$StanzaQueue"
  | 1 => .int
  | 2 => .int
  | 3 => .int
  | 4 => .int
  | 5 => .int
  | _ => .boolean
theorem n_C : ∀ a, a < 7 → ∀ b, b < 7 → a ≠ b → (F_C a).2.1 ≠ (F_C b).2.1 := by decide +kernel
theorem t_C_ok : ∀ k, k < 7 → parseFieldDescriptor (F_C k).2.2.1 = some (t_C k) := by decide +kernel
def R_Z : String := "XmppPair$Stanza"
def F_Z : u_T := fun k => match k with
  | 0 => ("XmppPair$Stanza", "kind", "I", true)
  | 1 => ("XmppPair$Stanza", "from", "I", true)
  | 2 => ("XmppPair$Stanza", "resource", "I", true)
  | 3 => ("XmppPair$Stanza", "value", "I", true)
  | 4 => ("XmppPair$Stanza", "to", "I", true)
  | _ => ("XmppPair$Stanza", "target", "I", true)
def t_Z : Nat → FieldType := fun k => match k with
  | 0 => .int
  | 1 => .int
  | 2 => .int
  | 3 => .int
  | 4 => .int
  | _ => .int
theorem n_Z : ∀ a, a < 6 → ∀ b, b < 6 → a ≠ b → (F_Z a).2.1 ≠ (F_Z b).2.1 := by decide +kernel
theorem t_Z_ok : ∀ k, k < 6 → parseFieldDescriptor (F_Z k).2.2.1 = some (t_Z k) := by decide +kernel
def R_Q : String := "XmppPair$StanzaQueue"
def F_Q : u_T := fun k => match k with
  | 0 => ("XmppPair$StanzaQueue", "places", "[LXmppPair$Stanza;", true)
  | 1 => ("XmppPair$StanzaQueue", "size", "I", false)
  | _ => ("XmppPair$StanzaQueue", "lost", "I", false)
def t_Q : Nat → FieldType := fun k => match k with
  | 0 => .array (.object "XmppPair$Stanza")
  | 1 => .int
  | _ => .int
theorem n_Q : ∀ a, a < 3 → ∀ b, b < 3 → a ≠ b → (F_Q a).2.1 ≠ (F_Q b).2.1 := by decide +kernel
theorem t_Q_ok : ∀ k, k < 3 → parseFieldDescriptor (F_Q k).2.2.1 = some (t_Q k) := by decide +kernel
def R_X : String := "XmppPair"
def F_X : u_T := fun k => match k with
  | 0 => ("XmppPair", "accounts", "[LXmppPair$Account;", true)
  | 1 => ("XmppPair", "connections", "[LXmppPair$Connection;", true)
  | 2 => ("XmppPair", "waiting", "LXmppPair$StanzaQueue;", true)
  | 3 => ("XmppPair", "linkUp", "Z", false)
  | 4 => ("XmppPair", "nextChallenge", "I", false)
  | _ => ("XmppPair", "lastTaken", "LXmppPair$Stanza;", false)
def t_X : Nat → FieldType := fun k => match k with
  | 0 => .array (.object "XmppPair$Account")
  | 1 => .array (.object "XmppPair$Connection")
  | 2 => .object "XmppPair$StanzaQueue"
  | 3 => .boolean
  | 4 => .int
  | _ => .object "XmppPair$Stanza"
theorem n_X : ∀ a, a < 6 → ∀ b, b < 6 → a ≠ b → (F_X a).2.1 ≠ (F_X b).2.1 := by decide +kernel
theorem t_X_ok : ∀ k, k < 6 → parseFieldDescriptor (F_X k).2.2.1 = some (t_X k) := by decide +kernel
def R_U : String := "XmppPairModel"
def F_U : u_T := fun k => match k with
  | 0 => ("XmppPairModel", "thrown", "I", false)
  | 1 => ("XmppPairModel", "registered", "[Z", true)
  | 2 => ("XmppPairModel", "password", "[I", true)
  | 3 => ("XmppPairModel", "marks", "[I", true)
  | 4 => ("XmppPairModel", "stage", "[I", true)
  | 5 => ("XmppPairModel", "account", "[I", true)
  | 6 => ("XmppPairModel", "resource", "[I", true)
  | 7 => ("XmppPairModel", "available", "[Z", true)
  | 8 => ("XmppPairModel", "priority", "[I", true)
  | 9 => ("XmppPairModel", "challenge", "[I", true)
  | 10 => ("XmppPairModel", "challenges", "I", false)
  | 11 => ("XmppPairModel", "inKind", "[I", true)
  | 12 => ("XmppPairModel", "inFrom", "[I", true)
  | 13 => ("XmppPairModel", "inResource", "[I", true)
  | 14 => ("XmppPairModel", "inValue", "[I", true)
  | 15 => ("XmppPairModel", "held", "[I", true)
  | 16 => ("XmppPairModel", "keptFrom", "[I", true)
  | 17 => ("XmppPairModel", "keptResource", "[I", true)
  | 18 => ("XmppPairModel", "keptBody", "[I", true)
  | 19 => ("XmppPairModel", "kept", "[I", true)
  | 20 => ("XmppPairModel", "wKind", "[I", true)
  | 21 => ("XmppPairModel", "wFrom", "[I", true)
  | 22 => ("XmppPairModel", "wTo", "[I", true)
  | 23 => ("XmppPairModel", "wResource", "[I", true)
  | 24 => ("XmppPairModel", "wValue", "[I", true)
  | 25 => ("XmppPairModel", "wTarget", "[I", true)
  | 26 => ("XmppPairModel", "waiting", "I", false)
  | 27 => ("XmppPairModel", "up", "Z", false)
  | 28 => ("XmppPairModel", "lost", "I", false)
  | 29 => ("XmppPairModel", "reply", "I", false)
  | 30 => ("XmppPairModel", "took", "Z", false)
  | 31 => ("XmppPairModel", "tookFrom", "I", false)
  | 32 => ("XmppPairModel", "tookResource", "I", false)
  | _ => ("XmppPairModel", "tookValue", "I", false)
def t_U : Nat → FieldType := fun k => match k with
  | 0 => .int
  | 1 => .array .boolean
  | 2 => .array .int
  | 3 => .array .int
  | 4 => .array .int
  | 5 => .array .int
  | 6 => .array .int
  | 7 => .array .boolean
  | 8 => .array .int
  | 9 => .array .int
  | 10 => .int
  | 11 => .array .int
  | 12 => .array .int
  | 13 => .array .int
  | 14 => .array .int
  | 15 => .array .int
  | 16 => .array .int
  | 17 => .array .int
  | 18 => .array .int
  | 19 => .array .int
  | 20 => .array .int
  | 21 => .array .int
  | 22 => .array .int
  | 23 => .array .int
  | 24 => .array .int
  | 25 => .array .int
  | 26 => .int
  | 27 => .boolean
  | 28 => .int
  | 29 => .int
  | 30 => .boolean
  | 31 => .int
  | 32 => .int
  | _ => .int
theorem n_U : ∀ a, a < 34 → ∀ b, b < 34 → a ≠ b → (F_U a).2.1 ≠ (F_U b).2.1 := by decide +kernel
theorem t_U_ok : ∀ k, k < 34 → parseFieldDescriptor (F_U k).2.2.1 = some (t_U k) := by decide +kernel
def R_L : String := "XmppPairLaw"
def y_X_init : MethodName := ⟨"XmppPair", "<init>", "()V"⟩
abbrev b_X_init : ByteArray := prog_1_method_1_code
def y_Z_init : MethodName := ⟨"XmppPair$Stanza", "<init>", "(IIIIII)V"⟩
abbrev b_Z_init : ByteArray := prog_4_method_1_code
def y_A_init : MethodName := ⟨"XmppPair$Account", "<init>", "(LXmppPair$Stanza;)V"⟩
abbrev b_A_init : ByteArray := prog_2_method_1_code
def y_Q_init : MethodName := ⟨"XmppPair$StanzaQueue", "<init>", "(ILXmppPair$Stanza;)V"⟩
abbrev b_Q_init : ByteArray := prog_5_method_1_code
def y_C_init : MethodName := ⟨"XmppPair$Connection", "<init>", "(LXmppPair$Stanza;)V"⟩
abbrev b_C_init : ByteArray := prog_3_method_1_code
def y_X_link : MethodName := ⟨"XmppPair", "link", "(Z)I"⟩
abbrev b_X_link : ByteArray := prog_1_method_12_code
def y_Q_removeFirst : MethodName := ⟨"XmppPair$StanzaQueue", "removeFirst", "()LXmppPair$Stanza;"⟩
abbrev b_Q_removeFirst : ByteArray := prog_5_method_4_code
def y_X_arrive : MethodName := ⟨"XmppPair", "arrive", "(LXmppPair$Stanza;)V"⟩
abbrev b_X_arrive : ByteArray := prog_1_method_37_code
def y_X_messageArrives : MethodName := ⟨"XmppPair", "messageArrives", "(LXmppPair$Stanza;)V"⟩
abbrev b_X_messageArrives : ByteArray := prog_1_method_38_code
def y_X_boundWith : MethodName := ⟨"XmppPair", "boundWith", "(II)LXmppPair$Connection;"⟩
abbrev b_X_boundWith : ByteArray := prog_1_method_25_code
def y_Q_add : MethodName := ⟨"XmppPair$StanzaQueue", "add", "(LXmppPair$Stanza;)V"⟩
abbrev b_Q_add : ByteArray := prog_5_method_3_code
def y_X_greatestPriority : MethodName := ⟨"XmppPair", "greatestPriority", "(I)I"⟩
abbrev b_X_greatestPriority : ByteArray := prog_1_method_39_code
def y_C_isAvailableFor : MethodName := ⟨"XmppPair$Connection", "isAvailableFor", "(I)Z"⟩
abbrev b_C_isAvailableFor : ByteArray := prog_3_method_2_code
def y_X_giveToPriority : MethodName := ⟨"XmppPair", "giveToPriority", "(LXmppPair$Stanza;I)V"⟩
abbrev b_X_giveToPriority : ByteArray := prog_1_method_40_code
def y_Q_isFull : MethodName := ⟨"XmppPair$StanzaQueue", "isFull", "()Z"⟩
abbrev b_Q_isFull : ByteArray := prog_5_method_2_code
def y_X_returnError : MethodName := ⟨"XmppPair", "returnError", "(LXmppPair$Stanza;)V"⟩
abbrev b_X_returnError : ByteArray := prog_1_method_35_code
def y_X_giveToAvailable : MethodName := ⟨"XmppPair", "giveToAvailable", "(LXmppPair$Stanza;)V"⟩
abbrev b_X_giveToAvailable : ByteArray := prog_1_method_36_code
def y_X_askArrives : MethodName := ⟨"XmppPair", "askArrives", "(LXmppPair$Stanza;)V"⟩
abbrev b_X_askArrives : ByteArray := prog_1_method_41_code
def y_A_hasAny : MethodName := ⟨"XmppPair$Account", "hasAny", "(II)Z"⟩
abbrev b_A_hasAny : ByteArray := prog_2_method_2_code
def y_X_grantArrives : MethodName := ⟨"XmppPair", "grantArrives", "(LXmppPair$Stanza;)V"⟩
abbrev b_X_grantArrives : ByteArray := prog_1_method_42_code
def y_A_addMark : MethodName := ⟨"XmppPair$Account", "addMark", "(II)V"⟩
abbrev b_A_addMark : ByteArray := prog_2_method_3_code
def y_A_dropMarks : MethodName := ⟨"XmppPair$Account", "dropMarks", "(II)V"⟩
abbrev b_A_dropMarks : ByteArray := prog_2_method_4_code
def y_X_endingArrives : MethodName := ⟨"XmppPair", "endingArrives", "(LXmppPair$Stanza;I)V"⟩
abbrev b_X_endingArrives : ByteArray := prog_1_method_43_code
def y_X_register : MethodName := ⟨"XmppPair", "register", "(II)I"⟩
abbrev b_X_register : ByteArray := prog_1_method_2_code
def y_X_isAccount : MethodName := ⟨"XmppPair", "isAccount", "(I)Z"⟩
abbrev b_X_isAccount : ByteArray := prog_1_method_20_code
def y_X_checkArgument : MethodName := ⟨"XmppPair", "checkArgument", "(Z)V"⟩
abbrev b_X_checkArgument : ByteArray := prog_1_method_18_code
def y_X_checkState : MethodName := ⟨"XmppPair", "checkState", "(Z)V"⟩
abbrev b_X_checkState : ByteArray := prog_1_method_19_code
def y_X_connect : MethodName := ⟨"XmppPair", "connect", "(I)I"⟩
abbrev b_X_connect : ByteArray := prog_1_method_3_code
def y_X_isConnection : MethodName := ⟨"XmppPair", "isConnection", "(I)Z"⟩
abbrev b_X_isConnection : ByteArray := prog_1_method_21_code
def y_Q_clear : MethodName := ⟨"XmppPair$StanzaQueue", "clear", "()V"⟩
abbrev b_Q_clear : ByteArray := prog_5_method_5_code
def y_X_login : MethodName := ⟨"XmppPair", "login", "(II)I"⟩
abbrev b_X_login : ByteArray := prog_1_method_4_code
def y_X_prove : MethodName := ⟨"XmppPair", "prove", "(II)I"⟩
abbrev b_X_prove : ByteArray := prog_1_method_5_code
def y_X_isRightProof : MethodName := ⟨"XmppPair", "isRightProof", "(LXmppPair$Connection;I)Z"⟩
abbrev b_X_isRightProof : ByteArray := prog_1_method_24_code
def y_X_bind : MethodName := ⟨"XmppPair", "bind", "(II)I"⟩
abbrev b_X_bind : ByteArray := prog_1_method_6_code
def y_X_shut : MethodName := ⟨"XmppPair", "shut", "(LXmppPair$Connection;)V"⟩
abbrev b_X_shut : ByteArray := prog_1_method_26_code
def y_X_sendToWatchers : MethodName := ⟨"XmppPair", "sendToWatchers", "(LXmppPair$Connection;I)V"⟩
abbrev b_X_sendToWatchers : ByteArray := prog_1_method_28_code
def y_X_presenceOf : MethodName := ⟨"XmppPair", "presenceOf", "(LXmppPair$Connection;II)LXmppPair$Stanza;"⟩
abbrev b_X_presenceOf : ByteArray := prog_1_method_27_code
def y_X_send : MethodName := ⟨"XmppPair", "send", "(LXmppPair$Stanza;)V"⟩
abbrev b_X_send : ByteArray := prog_1_method_34_code
def y_X_canReach : MethodName := ⟨"XmppPair", "canReach", "(II)Z"⟩
abbrev b_X_canReach : ByteArray := prog_1_method_23_code
def y_X_onOneServer : MethodName := ⟨"XmppPair", "onOneServer", "(II)Z"⟩
abbrev b_X_onOneServer : ByteArray := prog_1_method_22_code
def y_X_here : MethodName := ⟨"XmppPair", "here", "(II)I"⟩
abbrev b_X_here : ByteArray := prog_1_method_7_code
def y_X_showOthers : MethodName := ⟨"XmppPair", "showOthers", "(LXmppPair$Connection;)V"⟩
abbrev b_X_showOthers : ByteArray := prog_1_method_30_code
def y_X_showConnectionsOf : MethodName := ⟨"XmppPair", "showConnectionsOf", "(ILXmppPair$Connection;)V"⟩
abbrev b_X_showConnectionsOf : ByteArray := prog_1_method_31_code
def y_X_handOverKept : MethodName := ⟨"XmppPair", "handOverKept", "(LXmppPair$Connection;)V"⟩
abbrev b_X_handOverKept : ByteArray := prog_1_method_32_code
def y_X_gone : MethodName := ⟨"XmppPair", "gone", "(I)I"⟩
abbrev b_X_gone : ByteArray := prog_1_method_8_code
def y_X_close : MethodName := ⟨"XmppPair", "close", "(I)I"⟩
abbrev b_X_close : ByteArray := prog_1_method_9_code
def y_X_message : MethodName := ⟨"XmppPair", "message", "(IIII)I"⟩
abbrev b_X_message : ByteArray := prog_1_method_10_code
def y_X_subscribe : MethodName := ⟨"XmppPair", "subscribe", "(III)I"⟩
abbrev b_X_subscribe : ByteArray := prog_1_method_11_code
def y_X_sendPresences : MethodName := ⟨"XmppPair", "sendPresences", "(III)V"⟩
abbrev b_X_sendPresences : ByteArray := prog_1_method_29_code
def y_X_changeOwnMarks : MethodName := ⟨"XmppPair", "changeOwnMarks", "(LXmppPair$Account;II)V"⟩
abbrev b_X_changeOwnMarks : ByteArray := prog_1_method_33_code
def y_X_take : MethodName := ⟨"XmppPair", "take", "(I)I"⟩
abbrev b_X_take : ByteArray := prog_1_method_13_code
def y_X_taken : MethodName := ⟨"XmppPair", "taken", "(I)I"⟩
abbrev b_X_taken : ByteArray := prog_1_method_14_code
def y_X_roster : MethodName := ⟨"XmppPair", "roster", "(II)I"⟩
abbrev b_X_roster : ByteArray := prog_1_method_15_code
def y_X_connection : MethodName := ⟨"XmppPair", "connection", "(II)I"⟩
abbrev b_X_connection : ByteArray := prog_1_method_16_code
def y_X_count : MethodName := ⟨"XmppPair", "count", "(I)I"⟩
abbrev b_X_count : ByteArray := prog_1_method_17_code
def y_X_keptForAll : MethodName := ⟨"XmppPair", "keptForAll", "()I"⟩
abbrev b_X_keptForAll : ByteArray := prog_1_method_44_code
def y_X_lostByAll : MethodName := ⟨"XmppPair", "lostByAll", "()I"⟩
abbrev b_X_lostByAll : ByteArray := prog_1_method_45_code
def y_U_init : MethodName := ⟨"XmppPairModel", "<init>", "()V"⟩
abbrev b_U_init : ByteArray := prog_7_method_1_code
def y_U_thrown : MethodName := ⟨"XmppPairModel", "thrown", "()I"⟩
abbrev b_U_thrown : ByteArray := prog_7_method_2_code
def y_U_register : MethodName := ⟨"XmppPairModel", "register", "(II)I"⟩
abbrev b_U_register : ByteArray := prog_7_method_17_code
def y_U_isAccount : MethodName := ⟨"XmppPairModel", "isAccount", "(I)Z"⟩
abbrev b_U_isAccount : ByteArray := prog_7_method_6_code
def y_U_in : MethodName := ⟨"XmppPairModel", "in", "(III)Z"⟩
abbrev b_U_in : ByteArray := prog_7_method_4_code
def y_U_raise : MethodName := ⟨"XmppPairModel", "raise", "(I)I"⟩
abbrev b_U_raise : ByteArray := prog_7_method_3_code
def y_U_connect : MethodName := ⟨"XmppPairModel", "connect", "(I)I"⟩
abbrev b_U_connect : ByteArray := prog_7_method_18_code
def y_U_isConnection : MethodName := ⟨"XmppPairModel", "isConnection", "(I)Z"⟩
abbrev b_U_isConnection : ByteArray := prog_7_method_5_code
def y_U_login : MethodName := ⟨"XmppPairModel", "login", "(II)I"⟩
abbrev b_U_login : ByteArray := prog_7_method_19_code
def y_U_prove : MethodName := ⟨"XmppPairModel", "prove", "(II)I"⟩
abbrev b_U_prove : ByteArray := prog_7_method_20_code
def y_U_bind : MethodName := ⟨"XmppPairModel", "bind", "(II)I"⟩
abbrev b_U_bind : ByteArray := prog_7_method_23_code
def y_U_shut : MethodName := ⟨"XmppPairModel", "shut", "(I)V"⟩
abbrev b_U_shut : ByteArray := prog_7_method_22_code
def y_U_tell : MethodName := ⟨"XmppPairModel", "tell", "(II)V"⟩
abbrev b_U_tell : ByteArray := prog_7_method_21_code
def y_U_marked : MethodName := ⟨"XmppPairModel", "marked", "(III)Z"⟩
abbrev b_U_marked : ByteArray := prog_7_method_7_code
def y_U_send : MethodName := ⟨"XmppPairModel", "send", "(IIIIII)V"⟩
abbrev b_U_send : ByteArray := prog_7_method_16_code
def y_U_hold : MethodName := ⟨"XmppPairModel", "hold", "(IIIIII)V"⟩
abbrev b_U_hold : ByteArray := prog_7_method_15_code
def y_U_putAll : MethodName := ⟨"XmppPairModel", "putAll", "(IIIII)V"⟩
abbrev b_U_putAll : ByteArray := prog_7_method_11_code
def y_U_put : MethodName := ⟨"XmppPairModel", "put", "(IIIII)V"⟩
abbrev b_U_put : ByteArray := prog_7_method_10_code
def y_U_arrive : MethodName := ⟨"XmppPairModel", "arrive", "(IIIIII)V"⟩
abbrev b_U_arrive : ByteArray := prog_7_method_14_code
def y_U_route : MethodName := ⟨"XmppPairModel", "route", "(IIIII)I"⟩
abbrev b_U_route : ByteArray := prog_7_method_12_code
def y_U_mark : MethodName := ⟨"XmppPairModel", "mark", "(III)V"⟩
abbrev b_U_mark : ByteArray := prog_7_method_8_code
def y_U_unmark : MethodName := ⟨"XmppPairModel", "unmark", "(III)V"⟩
abbrev b_U_unmark : ByteArray := prog_7_method_9_code
def y_U_end : MethodName := ⟨"XmppPairModel", "end", "(IIII)V"⟩
abbrev b_U_end : ByteArray := prog_7_method_13_code
def y_U_here : MethodName := ⟨"XmppPairModel", "here", "(II)I"⟩
abbrev b_U_here : ByteArray := prog_7_method_25_code
def y_U_welcome : MethodName := ⟨"XmppPairModel", "welcome", "(I)V"⟩
abbrev b_U_welcome : ByteArray := prog_7_method_24_code
def y_U_gone : MethodName := ⟨"XmppPairModel", "gone", "(I)I"⟩
abbrev b_U_gone : ByteArray := prog_7_method_26_code
def y_U_close : MethodName := ⟨"XmppPairModel", "close", "(I)I"⟩
abbrev b_U_close : ByteArray := prog_7_method_27_code
def y_U_message : MethodName := ⟨"XmppPairModel", "message", "(IIII)I"⟩
abbrev b_U_message : ByteArray := prog_7_method_28_code
def y_U_subscribe : MethodName := ⟨"XmppPairModel", "subscribe", "(III)I"⟩
abbrev b_U_subscribe : ByteArray := prog_7_method_30_code
def y_U_show : MethodName := ⟨"XmppPairModel", "show", "(III)V"⟩
abbrev b_U_show : ByteArray := prog_7_method_29_code
def y_U_link : MethodName := ⟨"XmppPairModel", "link", "(Z)I"⟩
abbrev b_U_link : ByteArray := prog_7_method_31_code
def y_U_take : MethodName := ⟨"XmppPairModel", "take", "(I)I"⟩
abbrev b_U_take : ByteArray := prog_7_method_32_code
def y_U_taken : MethodName := ⟨"XmppPairModel", "taken", "(I)I"⟩
abbrev b_U_taken : ByteArray := prog_7_method_33_code
def y_U_roster : MethodName := ⟨"XmppPairModel", "roster", "(II)I"⟩
abbrev b_U_roster : ByteArray := prog_7_method_34_code
def y_U_connection : MethodName := ⟨"XmppPairModel", "connection", "(II)I"⟩
abbrev b_U_connection : ByteArray := prog_7_method_35_code
def y_U_count : MethodName := ⟨"XmppPairModel", "count", "(I)I"⟩
abbrev b_U_count : ByteArray := prog_7_method_36_code
def y_L_register : MethodName := ⟨"XmppPairLaw", "register", "(LXmppPair;II[J)I"⟩
abbrev b_L_register : ByteArray := method_3_code
def y_L_connect : MethodName := ⟨"XmppPairLaw", "connect", "(LXmppPair;I[J)I"⟩
abbrev b_L_connect : ByteArray := method_4_code
def y_L_login : MethodName := ⟨"XmppPairLaw", "login", "(LXmppPair;II[J)I"⟩
abbrev b_L_login : ByteArray := method_5_code
def y_L_prove : MethodName := ⟨"XmppPairLaw", "prove", "(LXmppPair;II[J)I"⟩
abbrev b_L_prove : ByteArray := method_6_code
def y_L_bind : MethodName := ⟨"XmppPairLaw", "bind", "(LXmppPair;II[J)I"⟩
abbrev b_L_bind : ByteArray := method_7_code
def y_L_here : MethodName := ⟨"XmppPairLaw", "here", "(LXmppPair;II[J)I"⟩
abbrev b_L_here : ByteArray := method_8_code
def y_L_gone : MethodName := ⟨"XmppPairLaw", "gone", "(LXmppPair;I[J)I"⟩
abbrev b_L_gone : ByteArray := method_9_code
def y_L_close : MethodName := ⟨"XmppPairLaw", "close", "(LXmppPair;I[J)I"⟩
abbrev b_L_close : ByteArray := method_10_code
def y_L_message : MethodName := ⟨"XmppPairLaw", "message", "(LXmppPair;IIII[J)I"⟩
abbrev b_L_message : ByteArray := method_11_code
def y_L_subscribe : MethodName := ⟨"XmppPairLaw", "subscribe", "(LXmppPair;III[J)I"⟩
abbrev b_L_subscribe : ByteArray := method_12_code
def y_L_take : MethodName := ⟨"XmppPairLaw", "take", "(LXmppPair;I[J)I"⟩
abbrev b_L_take : ByteArray := method_13_code
def y_L_taken : MethodName := ⟨"XmppPairLaw", "taken", "(LXmppPair;I[J)I"⟩
abbrev b_L_taken : ByteArray := method_14_code
def y_L_roster : MethodName := ⟨"XmppPairLaw", "roster", "(LXmppPair;II[J)I"⟩
abbrev b_L_roster : ByteArray := method_15_code
def y_L_connection : MethodName := ⟨"XmppPairLaw", "connection", "(LXmppPair;II[J)I"⟩
abbrev b_L_connection : ByteArray := method_16_code
def y_L_count : MethodName := ⟨"XmppPairLaw", "count", "(LXmppPair;I[J)I"⟩
abbrev b_L_count : ByteArray := method_17_code
abbrev vwCl : List vw_C := [(R_A, F_A, 4), (R_C, F_C, 7), (R_Z, F_Z, 6), (R_Q, F_Q, 3), (R_X, F_X, 6), (R_U, F_U, 34)]
/-- the words that every method here gets: those of the tables that a callee may be handed -/
def xw_ws : List Cond := lw_tbl.filter goodWord
theorem xw_t {w : Cond} (k : Nat) (h : tables_1[k]? = some w) (hg : goodWord w = true) : w ∈ xw_ws := List.mem_filter.mpr ⟨List.mem_append_right _ (List.mem_of_getElem? h), hg⟩
theorem xw_p {w : Cond} (k : Nat) (h : (k2_sels lw_privs)[k]? = some w) (hg : goodWord w = true) : w ∈ xw_ws := List.mem_filter.mpr ⟨List.mem_append_left _ (List.mem_of_getElem? h), hg⟩
theorem xw_good {c : Cond} (h : c ∈ xw_ws) : GoodIn xw_ws (c :: xw_ws) := fun w hw => by
  rcases List.mem_cons.mp hw with rfl | hw
  · exact ⟨h, good_of_word (List.mem_filter.mp h).2⟩
  · exact ⟨hw, good_of_word (List.mem_filter.mp hw).2⟩
theorem xw_goodV {c : Cond} {own C : String} {idx : Nat} {y : MethodName} (h : c ∈ xw_ws) (h1 : Cond.methodLink own idx y ∈ xw_ws) (h2 : Cond.instanceMethod y ∈ xw_ws) (h3 : Cond.selects C y y ∈ xw_ws) (h4 : Cond.initialized C ∈ xw_ws) : GoodIn xw_ws (wsV own idx C y (c :: xw_ws)) := fun w hw => by
  rcases List.mem_append.mp hw with hw | hw
  · rcases List.mem_cons.mp hw with rfl | hw
    · exact ⟨h1, good_of_word (List.mem_filter.mp h1).2⟩
    · rcases List.mem_cons.mp hw with rfl | hw
      · exact ⟨h2, good_of_word (List.mem_filter.mp h2).2⟩
      · rcases List.mem_cons.mp hw with rfl | hw
        · exact ⟨h3, good_of_word (List.mem_filter.mp h3).2⟩
        · rcases List.mem_cons.mp hw with rfl | hw
          · exact ⟨h4, good_of_word (List.mem_filter.mp h4).2⟩
          · cases hw
  · exact xw_good h w hw
theorem xw_goodS {c : Cond} {own : String} {idx : Nat} {y : MethodName} (h : c ∈ xw_ws) (h1 : Cond.methodLink own idx y ∈ xw_ws) (h2 : Cond.static y ∈ xw_ws) (h4 : Cond.initialized own ∈ xw_ws) : GoodIn xw_ws (wsS own idx y (c :: xw_ws)) := fun w hw => by
  rcases List.mem_append.mp hw with hw | hw
  · rcases List.mem_cons.mp hw with rfl | hw
    · exact ⟨h1, good_of_word (List.mem_filter.mp h1).2⟩
    · rcases List.mem_cons.mp hw with rfl | hw
      · exact ⟨h2, good_of_word (List.mem_filter.mp h2).2⟩
      · rcases List.mem_cons.mp hw with rfl | hw
        · exact ⟨h4, good_of_word (List.mem_filter.mp h4).2⟩
        · cases hw
  · exact xw_good h w hw
theorem ii_L : Cond.initialized "XmppPairLaw" ∈ xw_ws := xw_t 0 rfl rfl
theorem ii_X : Cond.initialized "XmppPair" ∈ xw_ws := xw_t 1 rfl rfl
theorem ii_Z : Cond.initialized "XmppPair$Stanza" ∈ xw_ws := xw_t 2 rfl rfl
theorem ii_A : Cond.initialized "XmppPair$Account" ∈ xw_ws := xw_t 3 rfl rfl
theorem ii_Q : Cond.initialized "XmppPair$StanzaQueue" ∈ xw_ws := xw_t 4 rfl rfl
theorem ii_C : Cond.initialized "XmppPair$Connection" ∈ xw_ws := xw_t 5 rfl rfl
theorem ii_U : Cond.initialized "XmppPairModel" ∈ xw_ws := xw_t 6 rfl rfl
theorem cl_L_8 : Cond.classLink "XmppPairLaw" 8 "XmppPair" ∈ xw_ws := xw_t 14 rfl rfl
theorem is_X : Cond.instantiable "XmppPair" 6 ∈ xw_ws := xw_t 15 rfl rfl
theorem ml_L_66 : Cond.methodLink "XmppPairLaw" 66 y_X_init ∈ xw_ws := xw_t 16 rfl rfl
theorem im_X_init : Cond.instanceMethod y_X_init ∈ xw_ws := xw_t 17 rfl rfl
theorem cd_X_init : Cond.code y_X_init b_X_init 3 none ∈ xw_ws := xw_t 18 rfl rfl
theorem ml_X_1 : Cond.methodLink "XmppPair" 1 objectInit ∈ xw_ws := xw_t 19 rfl rfl
theorem im_obj : Cond.instanceMethod objectInit ∈ xw_ws := xw_t 20 rfl rfl
theorem cd_obj : Cond.code objectInit ⟨#[0xb1]⟩ 1 none ∈ xw_ws := xw_t 21 rfl rfl
theorem cl_X_7 : Cond.classLink "XmppPair" 7 "XmppPair$Stanza" ∈ xw_ws := xw_t 22 rfl rfl
theorem is_Z : Cond.instantiable "XmppPair$Stanza" 6 ∈ xw_ws := xw_t 23 rfl rfl
theorem ml_X_11 : Cond.methodLink "XmppPair" 11 y_Z_init ∈ xw_ws := xw_t 24 rfl rfl
theorem im_Z_init : Cond.instanceMethod y_Z_init ∈ xw_ws := xw_t 25 rfl rfl
theorem cd_Z_init : Cond.code y_Z_init b_Z_init 7 none ∈ xw_ws := xw_t 26 rfl rfl
theorem ml_Z_1 : Cond.methodLink "XmppPair$Stanza" 1 objectInit ∈ xw_ws := xw_t 27 rfl rfl
theorem lk_Z_7 : Cond.fieldLink "XmppPair$Stanza" 7 "XmppPair$Stanza" "kind" "I" ∈ xw_ws := xw_t 28 rfl rfl
theorem lk_X_148 : Cond.fieldLink "XmppPair" 148 "XmppPair$Stanza" "kind" "I" ∈ xw_ws := xw_t 29 rfl rfl
theorem lk_Z_13 : Cond.fieldLink "XmppPair$Stanza" 13 "XmppPair$Stanza" "from" "I" ∈ xw_ws := xw_t 30 rfl rfl
theorem lk_X_151 : Cond.fieldLink "XmppPair" 151 "XmppPair$Stanza" "from" "I" ∈ xw_ws := xw_t 31 rfl rfl
theorem lk_Z_16 : Cond.fieldLink "XmppPair$Stanza" 16 "XmppPair$Stanza" "resource" "I" ∈ xw_ws := xw_t 32 rfl rfl
theorem lk_X_154 : Cond.fieldLink "XmppPair" 154 "XmppPair$Stanza" "resource" "I" ∈ xw_ws := xw_t 33 rfl rfl
theorem lk_Z_19 : Cond.fieldLink "XmppPair$Stanza" 19 "XmppPair$Stanza" "value" "I" ∈ xw_ws := xw_t 34 rfl rfl
theorem lk_X_155 : Cond.fieldLink "XmppPair" 155 "XmppPair$Stanza" "value" "I" ∈ xw_ws := xw_t 35 rfl rfl
theorem lk_Z_22 : Cond.fieldLink "XmppPair$Stanza" 22 "XmppPair$Stanza" "to" "I" ∈ xw_ws := xw_t 36 rfl rfl
theorem lk_X_205 : Cond.fieldLink "XmppPair" 205 "XmppPair$Stanza" "to" "I" ∈ xw_ws := xw_t 37 rfl rfl
theorem lk_Z_25 : Cond.fieldLink "XmppPair$Stanza" 25 "XmppPair$Stanza" "target" "I" ∈ xw_ws := xw_t 38 rfl rfl
theorem lk_X_231 : Cond.fieldLink "XmppPair" 231 "XmppPair$Stanza" "target" "I" ∈ xw_ws := xw_t 39 rfl rfl
theorem cl_X_14 : Cond.classLink "XmppPair" 14 "XmppPair$Account" ∈ xw_ws := xw_t 53 rfl rfl
theorem ao_A : Cond.arrayOver (.object "XmppPair$Account") ∈ lw_tbl := List.mem_append_right _ (List.mem_of_getElem? (i := 54) rfl)
theorem is_A : Cond.instantiable "XmppPair$Account" 4 ∈ xw_ws := xw_t 55 rfl rfl
theorem ml_X_20 : Cond.methodLink "XmppPair" 20 y_A_init ∈ xw_ws := xw_t 56 rfl rfl
theorem im_A_init : Cond.instanceMethod y_A_init ∈ xw_ws := xw_t 57 rfl rfl
theorem cd_A_init : Cond.code y_A_init b_A_init 2 none ∈ xw_ws := xw_t 58 rfl rfl
theorem ml_A_3 : Cond.methodLink "XmppPair$Account" 3 objectInit ∈ xw_ws := xw_t 59 rfl rfl
theorem cl_A_15 : Cond.classLink "XmppPair$Account" 15 "XmppPair$StanzaQueue" ∈ xw_ws := xw_t 60 rfl rfl
theorem is_Q : Cond.instantiable "XmppPair$StanzaQueue" 3 ∈ xw_ws := xw_t 61 rfl rfl
theorem ml_A_17 : Cond.methodLink "XmppPair$Account" 17 y_Q_init ∈ xw_ws := xw_t 62 rfl rfl
theorem im_Q_init : Cond.instanceMethod y_Q_init ∈ xw_ws := xw_t 63 rfl rfl
theorem cd_Q_init : Cond.code y_Q_init b_Q_init 4 none ∈ xw_ws := xw_t 64 rfl rfl
theorem ml_Q_1 : Cond.methodLink "XmppPair$StanzaQueue" 1 objectInit ∈ xw_ws := xw_t 65 rfl rfl
theorem cl_Q_7 : Cond.classLink "XmppPair$StanzaQueue" 7 "XmppPair$Stanza" ∈ xw_ws := xw_t 66 rfl rfl
theorem ao_Z : Cond.arrayOver (.object "XmppPair$Stanza") ∈ lw_tbl := List.mem_append_right _ (List.mem_of_getElem? (i := 67) rfl)
theorem lk_Q_9 : Cond.fieldLink "XmppPair$StanzaQueue" 9 "XmppPair$StanzaQueue" "places" "[LXmppPair$Stanza;" ∈ xw_ws := xw_t 68 rfl rfl
theorem lk_Q_15 : Cond.fieldLink "XmppPair$StanzaQueue" 15 "XmppPair$StanzaQueue" "size" "I" ∈ xw_ws := xw_t 69 rfl rfl
theorem lk_X_120 : Cond.fieldLink "XmppPair" 120 "XmppPair$StanzaQueue" "size" "I" ∈ xw_ws := xw_t 70 rfl rfl
theorem lk_Q_19 : Cond.fieldLink "XmppPair$StanzaQueue" 19 "XmppPair$StanzaQueue" "lost" "I" ∈ xw_ws := xw_t 71 rfl rfl
theorem lk_X_241 : Cond.fieldLink "XmppPair" 241 "XmppPair$StanzaQueue" "lost" "I" ∈ xw_ws := xw_t 72 rfl rfl
theorem ar_int : Cond.arrayClass .int ∈ xw_ws := xw_t 80 rfl rfl
theorem lk_A_9 : Cond.fieldLink "XmppPair$Account" 9 "XmppPair$Account" "marks" "[I" ∈ xw_ws := xw_t 81 rfl rfl
theorem lk_X_161 : Cond.fieldLink "XmppPair" 161 "XmppPair$Account" "marks" "[I" ∈ xw_ws := xw_t 82 rfl rfl
theorem lk_A_20 : Cond.fieldLink "XmppPair$Account" 20 "XmppPair$Account" "kept" "LXmppPair$StanzaQueue;" ∈ xw_ws := xw_t 83 rfl rfl
theorem lk_X_172 : Cond.fieldLink "XmppPair" 172 "XmppPair$Account" "kept" "LXmppPair$StanzaQueue;" ∈ xw_ws := xw_t 84 rfl rfl
theorem lk_A_24 : Cond.fieldLink "XmppPair$Account" 24 "XmppPair$Account" "registered" "Z" ∈ xw_ws := xw_t 85 rfl rfl
theorem lk_X_59 : Cond.fieldLink "XmppPair" 59 "XmppPair$Account" "registered" "Z" ∈ xw_ws := xw_t 86 rfl rfl
theorem lk_A_28 : Cond.fieldLink "XmppPair$Account" 28 "XmppPair$Account" "password" "I" ∈ xw_ws := xw_t 87 rfl rfl
theorem lk_X_65 : Cond.fieldLink "XmppPair" 65 "XmppPair$Account" "password" "I" ∈ xw_ws := xw_t 88 rfl rfl
theorem cl_X_23 : Cond.classLink "XmppPair" 23 "XmppPair$Connection" ∈ xw_ws := xw_t 98 rfl rfl
theorem ao_C : Cond.arrayOver (.object "XmppPair$Connection") ∈ lw_tbl := List.mem_append_right _ (List.mem_of_getElem? (i := 99) rfl)
theorem is_C : Cond.instantiable "XmppPair$Connection" 7 ∈ xw_ws := xw_t 100 rfl rfl
theorem ml_X_29 : Cond.methodLink "XmppPair" 29 y_C_init ∈ xw_ws := xw_t 101 rfl rfl
theorem im_C_init : Cond.instanceMethod y_C_init ∈ xw_ws := xw_t 102 rfl rfl
theorem cd_C_init : Cond.code y_C_init b_C_init 2 none ∈ xw_ws := xw_t 103 rfl rfl
theorem ml_C_3 : Cond.methodLink "XmppPair$Connection" 3 objectInit ∈ xw_ws := xw_t 104 rfl rfl
theorem cl_C_9 : Cond.classLink "XmppPair$Connection" 9 "XmppPair$StanzaQueue" ∈ xw_ws := xw_t 105 rfl rfl
theorem ml_C_11 : Cond.methodLink "XmppPair$Connection" 11 y_Q_init ∈ xw_ws := xw_t 106 rfl rfl
theorem lk_C_14 : Cond.fieldLink "XmppPair$Connection" 14 "XmppPair$Connection" "inbox" "LXmppPair$StanzaQueue;" ∈ xw_ws := xw_t 107 rfl rfl
theorem lk_X_74 : Cond.fieldLink "XmppPair" 74 "XmppPair$Connection" "inbox" "LXmppPair$StanzaQueue;" ∈ xw_ws := xw_t 108 rfl rfl
theorem lk_C_20 : Cond.fieldLink "XmppPair$Connection" 20 "XmppPair$Connection" "stage" "I" ∈ xw_ws := xw_t 109 rfl rfl
theorem lk_X_71 : Cond.fieldLink "XmppPair" 71 "XmppPair$Connection" "stage" "I" ∈ xw_ws := xw_t 110 rfl rfl
theorem lk_C_24 : Cond.fieldLink "XmppPair$Connection" 24 "XmppPair$Connection" "account" "I" ∈ xw_ws := xw_t 111 rfl rfl
theorem lk_X_80 : Cond.fieldLink "XmppPair" 80 "XmppPair$Connection" "account" "I" ∈ xw_ws := xw_t 112 rfl rfl
theorem lk_C_27 : Cond.fieldLink "XmppPair$Connection" 27 "XmppPair$Connection" "resource" "I" ∈ xw_ws := xw_t 113 rfl rfl
theorem lk_X_101 : Cond.fieldLink "XmppPair" 101 "XmppPair$Connection" "resource" "I" ∈ xw_ws := xw_t 114 rfl rfl
theorem lk_C_30 : Cond.fieldLink "XmppPair$Connection" 30 "XmppPair$Connection" "priority" "I" ∈ xw_ws := xw_t 115 rfl rfl
theorem lk_X_107 : Cond.fieldLink "XmppPair" 107 "XmppPair$Connection" "priority" "I" ∈ xw_ws := xw_t 116 rfl rfl
theorem lk_C_33 : Cond.fieldLink "XmppPair$Connection" 33 "XmppPair$Connection" "challenge" "I" ∈ xw_ws := xw_t 117 rfl rfl
theorem lk_X_83 : Cond.fieldLink "XmppPair" 83 "XmppPair$Connection" "challenge" "I" ∈ xw_ws := xw_t 118 rfl rfl
theorem lk_C_36 : Cond.fieldLink "XmppPair$Connection" 36 "XmppPair$Connection" "available" "Z" ∈ xw_ws := xw_t 119 rfl rfl
theorem lk_X_104 : Cond.fieldLink "XmppPair" 104 "XmppPair$Connection" "available" "Z" ∈ xw_ws := xw_t 120 rfl rfl
theorem cl_X_30 : Cond.classLink "XmppPair" 30 "XmppPair$StanzaQueue" ∈ xw_ws := xw_t 136 rfl rfl
theorem ml_X_32 : Cond.methodLink "XmppPair" 32 y_Q_init ∈ xw_ws := xw_t 137 rfl rfl
theorem lk_X_16 : Cond.fieldLink "XmppPair" 16 "XmppPair" "accounts" "[LXmppPair$Account;" ∈ xw_ws := xw_t 138 rfl rfl
theorem lk_X_25 : Cond.fieldLink "XmppPair" 25 "XmppPair" "connections" "[LXmppPair$Connection;" ∈ xw_ws := xw_t 139 rfl rfl
theorem lk_X_35 : Cond.fieldLink "XmppPair" 35 "XmppPair" "waiting" "LXmppPair$StanzaQueue;" ∈ xw_ws := xw_t 140 rfl rfl
theorem lk_X_39 : Cond.fieldLink "XmppPair" 39 "XmppPair" "linkUp" "Z" ∈ xw_ws := xw_t 141 rfl rfl
theorem lk_X_43 : Cond.fieldLink "XmppPair" 43 "XmppPair" "nextChallenge" "I" ∈ xw_ws := xw_t 142 rfl rfl
theorem lk_X_47 : Cond.fieldLink "XmppPair" 47 "XmppPair" "lastTaken" "LXmppPair$Stanza;" ∈ xw_ws := xw_t 143 rfl rfl
theorem ml_L_110 : Cond.methodLink "XmppPairLaw" 110 y_X_link ∈ xw_ws := xw_t 157 rfl rfl
theorem im_X_link : Cond.instanceMethod y_X_link ∈ xw_ws := xw_t 158 rfl rfl
theorem sl_X_link : Cond.selects "XmppPair" y_X_link y_X_link ∈ xw_ws := xw_t 159 rfl rfl
theorem cd_X_link : Cond.code y_X_link b_X_link 4 (some .int) ∈ xw_ws := xw_t 160 rfl rfl
theorem ml_X_138 : Cond.methodLink "XmppPair" 138 y_Q_removeFirst ∈ xw_ws := xw_t 161 rfl rfl
theorem im_Q_removeFirst : Cond.instanceMethod y_Q_removeFirst ∈ xw_ws := xw_t 162 rfl rfl
theorem sl_Q_removeFirst : Cond.selects "XmppPair$StanzaQueue" y_Q_removeFirst y_Q_removeFirst ∈ xw_ws := xw_t 163 rfl rfl
theorem cd_Q_removeFirst : Cond.code y_Q_removeFirst b_Q_removeFirst 3 (some (.object "XmppPair$Stanza")) ∈ xw_ws := xw_t 164 rfl rfl
theorem ml_X_142 : Cond.methodLink "XmppPair" 142 y_X_arrive ∈ xw_ws := xw_t 165 rfl rfl
theorem im_X_arrive : Cond.instanceMethod y_X_arrive ∈ xw_ws := xw_t 167 rfl rfl
theorem cd_X_arrive : Cond.code y_X_arrive b_X_arrive 2 none ∈ xw_ws := xw_t 168 rfl rfl
theorem ml_X_218 : Cond.methodLink "XmppPair" 218 y_X_messageArrives ∈ xw_ws := xw_t 169 rfl rfl
theorem im_X_messageArrives : Cond.instanceMethod y_X_messageArrives ∈ xw_ws := xw_t 171 rfl rfl
theorem cd_X_messageArrives : Cond.code y_X_messageArrives b_X_messageArrives 5 none ∈ xw_ws := xw_t 172 rfl rfl
theorem ml_X_93 : Cond.methodLink "XmppPair" 93 y_X_boundWith ∈ xw_ws := xw_t 173 rfl rfl
theorem im_X_boundWith : Cond.instanceMethod y_X_boundWith ∈ xw_ws := xw_t 175 rfl rfl
theorem cd_X_boundWith : Cond.code y_X_boundWith b_X_boundWith 7 (some (.object "XmppPair$Connection")) ∈ xw_ws := xw_t 176 rfl rfl
theorem ml_X_195 : Cond.methodLink "XmppPair" 195 y_Q_add ∈ xw_ws := xw_t 177 rfl rfl
theorem im_Q_add : Cond.instanceMethod y_Q_add ∈ xw_ws := xw_t 178 rfl rfl
theorem sl_Q_add : Cond.selects "XmppPair$StanzaQueue" y_Q_add y_Q_add ∈ xw_ws := xw_t 179 rfl rfl
theorem cd_Q_add : Cond.code y_Q_add b_Q_add 2 none ∈ xw_ws := xw_t 180 rfl rfl
theorem ml_X_234 : Cond.methodLink "XmppPair" 234 y_X_greatestPriority ∈ xw_ws := xw_t 181 rfl rfl
theorem im_X_greatestPriority : Cond.instanceMethod y_X_greatestPriority ∈ xw_ws := xw_t 183 rfl rfl
theorem cd_X_greatestPriority : Cond.code y_X_greatestPriority b_X_greatestPriority 7 (some .int) ∈ xw_ws := xw_t 184 rfl rfl
theorem ml_X_185 : Cond.methodLink "XmppPair" 185 y_C_isAvailableFor ∈ xw_ws := xw_t 185 rfl rfl
theorem im_C_isAvailableFor : Cond.instanceMethod y_C_isAvailableFor ∈ xw_ws := xw_t 186 rfl rfl
theorem sl_C_isAvailableFor : Cond.selects "XmppPair$Connection" y_C_isAvailableFor y_C_isAvailableFor ∈ xw_ws := xw_t 187 rfl rfl
theorem cd_C_isAvailableFor : Cond.code y_C_isAvailableFor b_C_isAvailableFor 2 (some .boolean) ∈ xw_ws := xw_t 188 rfl rfl
theorem ml_X_238 : Cond.methodLink "XmppPair" 238 y_X_giveToPriority ∈ xw_ws := xw_t 189 rfl rfl
theorem im_X_giveToPriority : Cond.instanceMethod y_X_giveToPriority ∈ xw_ws := xw_t 191 rfl rfl
theorem cd_X_giveToPriority : Cond.code y_X_giveToPriority b_X_giveToPriority 7 none ∈ xw_ws := xw_t 192 rfl rfl
theorem ml_X_208 : Cond.methodLink "XmppPair" 208 y_Q_isFull ∈ xw_ws := xw_t 193 rfl rfl
theorem im_Q_isFull : Cond.instanceMethod y_Q_isFull ∈ xw_ws := xw_t 194 rfl rfl
theorem sl_Q_isFull : Cond.selects "XmppPair$StanzaQueue" y_Q_isFull y_Q_isFull ∈ xw_ws := xw_t 195 rfl rfl
theorem cd_Q_isFull : Cond.code y_Q_isFull b_Q_isFull 1 (some .boolean) ∈ xw_ws := xw_t 196 rfl rfl
theorem ml_X_212 : Cond.methodLink "XmppPair" 212 y_X_returnError ∈ xw_ws := xw_t 197 rfl rfl
theorem im_X_returnError : Cond.instanceMethod y_X_returnError ∈ xw_ws := xw_t 199 rfl rfl
theorem cd_X_returnError : Cond.code y_X_returnError b_X_returnError 2 none ∈ xw_ws := xw_t 200 rfl rfl
theorem ml_X_215 : Cond.methodLink "XmppPair" 215 y_X_giveToAvailable ∈ xw_ws := xw_t 201 rfl rfl
theorem im_X_giveToAvailable : Cond.instanceMethod y_X_giveToAvailable ∈ xw_ws := xw_t 203 rfl rfl
theorem cd_X_giveToAvailable : Cond.code y_X_giveToAvailable b_X_giveToAvailable 6 none ∈ xw_ws := xw_t 204 rfl rfl
theorem ml_X_221 : Cond.methodLink "XmppPair" 221 y_X_askArrives ∈ xw_ws := xw_t 205 rfl rfl
theorem im_X_askArrives : Cond.instanceMethod y_X_askArrives ∈ xw_ws := xw_t 207 rfl rfl
theorem cd_X_askArrives : Cond.code y_X_askArrives b_X_askArrives 3 none ∈ xw_ws := xw_t 208 rfl rfl
theorem ml_X_126 : Cond.methodLink "XmppPair" 126 y_A_hasAny ∈ xw_ws := xw_t 209 rfl rfl
theorem im_A_hasAny : Cond.instanceMethod y_A_hasAny ∈ xw_ws := xw_t 210 rfl rfl
theorem sl_A_hasAny : Cond.selects "XmppPair$Account" y_A_hasAny y_A_hasAny ∈ xw_ws := xw_t 211 rfl rfl
theorem cd_A_hasAny : Cond.code y_A_hasAny b_A_hasAny 3 (some .boolean) ∈ xw_ws := xw_t 212 rfl rfl
theorem ml_X_224 : Cond.methodLink "XmppPair" 224 y_X_grantArrives ∈ xw_ws := xw_t 213 rfl rfl
theorem im_X_grantArrives : Cond.instanceMethod y_X_grantArrives ∈ xw_ws := xw_t 215 rfl rfl
theorem cd_X_grantArrives : Cond.code y_X_grantArrives b_X_grantArrives 3 none ∈ xw_ws := xw_t 216 rfl rfl
theorem ml_X_198 : Cond.methodLink "XmppPair" 198 y_A_addMark ∈ xw_ws := xw_t 217 rfl rfl
theorem im_A_addMark : Cond.instanceMethod y_A_addMark ∈ xw_ws := xw_t 218 rfl rfl
theorem sl_A_addMark : Cond.selects "XmppPair$Account" y_A_addMark y_A_addMark ∈ xw_ws := xw_t 219 rfl rfl
theorem cd_A_addMark : Cond.code y_A_addMark b_A_addMark 3 none ∈ xw_ws := xw_t 220 rfl rfl
theorem ml_X_202 : Cond.methodLink "XmppPair" 202 y_A_dropMarks ∈ xw_ws := xw_t 221 rfl rfl
theorem im_A_dropMarks : Cond.instanceMethod y_A_dropMarks ∈ xw_ws := xw_t 222 rfl rfl
theorem sl_A_dropMarks : Cond.selects "XmppPair$Account" y_A_dropMarks y_A_dropMarks ∈ xw_ws := xw_t 223 rfl rfl
theorem cd_A_dropMarks : Cond.code y_A_dropMarks b_A_dropMarks 3 none ∈ xw_ws := xw_t 224 rfl rfl
theorem ml_X_227 : Cond.methodLink "XmppPair" 227 y_X_endingArrives ∈ xw_ws := xw_t 225 rfl rfl
theorem im_X_endingArrives : Cond.instanceMethod y_X_endingArrives ∈ xw_ws := xw_t 227 rfl rfl
theorem cd_X_endingArrives : Cond.code y_X_endingArrives b_X_endingArrives 4 none ∈ xw_ws := xw_t 228 rfl rfl
theorem ml_L_70 : Cond.methodLink "XmppPairLaw" 70 y_L_register ∈ xw_ws := xw_t 229 rfl rfl
theorem sm_L_register : Cond.static y_L_register ∈ xw_ws := xw_t 230 rfl rfl
theorem cw_L_register : Cond.codeWith y_L_register b_L_register 5 (some .int) [(0, 10, 13, 13), (0, 10, 17, 15)] ∈ xw_ws := xw_t 231 rfl rfl
theorem cl_L_13 : Cond.classLink "XmppPairLaw" 13 "java/lang/IllegalArgumentException" ∈ xw_ws := xw_t 232 rfl rfl
theorem cl_L_15 : Cond.classLink "XmppPairLaw" 15 "java/lang/IllegalStateException" ∈ xw_ws := xw_t 233 rfl rfl
theorem ml_L_7 : Cond.methodLink "XmppPairLaw" 7 y_X_register ∈ xw_ws := xw_t 234 rfl rfl
theorem im_X_register : Cond.instanceMethod y_X_register ∈ xw_ws := xw_t 235 rfl rfl
theorem sl_X_register : Cond.selects "XmppPair" y_X_register y_X_register ∈ xw_ws := xw_t 236 rfl rfl
theorem cd_X_register : Cond.code y_X_register b_X_register 4 (some .int) ∈ xw_ws := xw_t 237 rfl rfl
theorem ml_X_51 : Cond.methodLink "XmppPair" 51 y_X_isAccount ∈ xw_ws := xw_t 238 rfl rfl
theorem sm_X_isAccount : Cond.static y_X_isAccount ∈ xw_ws := xw_t 239 rfl rfl
theorem cd_X_isAccount : Cond.code y_X_isAccount b_X_isAccount 1 (some .boolean) ∈ xw_ws := xw_t 240 rfl rfl
theorem ml_X_55 : Cond.methodLink "XmppPair" 55 y_X_checkArgument ∈ xw_ws := xw_t 241 rfl rfl
theorem sm_X_checkArgument : Cond.static y_X_checkArgument ∈ xw_ws := xw_t 242 rfl rfl
theorem cd_X_checkArgument : Cond.code y_X_checkArgument b_X_checkArgument 1 none ∈ xw_ws := xw_t 243 rfl rfl
theorem cl_X_158 : Cond.classLink "XmppPair" 158 "java/lang/IllegalArgumentException" ∈ xw_ws := xw_t 244 rfl rfl
theorem ml_X_62 : Cond.methodLink "XmppPair" 62 y_X_checkState ∈ xw_ws := xw_t 308 rfl rfl
theorem sm_X_checkState : Cond.static y_X_checkState ∈ xw_ws := xw_t 309 rfl rfl
theorem cd_X_checkState : Cond.code y_X_checkState b_X_checkState 1 none ∈ xw_ws := xw_t 310 rfl rfl
theorem cl_X_175 : Cond.classLink "XmppPair" 175 "java/lang/IllegalStateException" ∈ xw_ws := xw_t 311 rfl rfl
theorem ml_L_80 : Cond.methodLink "XmppPairLaw" 80 y_L_connect ∈ xw_ws := xw_t 326 rfl rfl
theorem sm_L_connect : Cond.static y_L_connect ∈ xw_ws := xw_t 327 rfl rfl
theorem cw_L_connect : Cond.codeWith y_L_connect b_L_connect 4 (some .int) [(0, 9, 12, 13), (0, 9, 15, 15)] ∈ xw_ws := xw_t 328 rfl rfl
theorem ml_L_17 : Cond.methodLink "XmppPairLaw" 17 y_X_connect ∈ xw_ws := xw_t 329 rfl rfl
theorem im_X_connect : Cond.instanceMethod y_X_connect ∈ xw_ws := xw_t 330 rfl rfl
theorem sl_X_connect : Cond.selects "XmppPair" y_X_connect y_X_connect ∈ xw_ws := xw_t 331 rfl rfl
theorem cd_X_connect : Cond.code y_X_connect b_X_connect 3 (some .int) ∈ xw_ws := xw_t 332 rfl rfl
theorem ml_X_68 : Cond.methodLink "XmppPair" 68 y_X_isConnection ∈ xw_ws := xw_t 333 rfl rfl
theorem sm_X_isConnection : Cond.static y_X_isConnection ∈ xw_ws := xw_t 334 rfl rfl
theorem cd_X_isConnection : Cond.code y_X_isConnection b_X_isConnection 1 (some .boolean) ∈ xw_ws := xw_t 335 rfl rfl
theorem ml_X_77 : Cond.methodLink "XmppPair" 77 y_Q_clear ∈ xw_ws := xw_t 336 rfl rfl
theorem im_Q_clear : Cond.instanceMethod y_Q_clear ∈ xw_ws := xw_t 337 rfl rfl
theorem sl_Q_clear : Cond.selects "XmppPair$StanzaQueue" y_Q_clear y_Q_clear ∈ xw_ws := xw_t 338 rfl rfl
theorem cd_Q_clear : Cond.code y_Q_clear b_Q_clear 1 none ∈ xw_ws := xw_t 339 rfl rfl
theorem ml_L_84 : Cond.methodLink "XmppPairLaw" 84 y_L_login ∈ xw_ws := xw_t 340 rfl rfl
theorem sm_L_login : Cond.static y_L_login ∈ xw_ws := xw_t 341 rfl rfl
theorem cw_L_login : Cond.codeWith y_L_login b_L_login 5 (some .int) [(0, 10, 13, 13), (0, 10, 17, 15)] ∈ xw_ws := xw_t 342 rfl rfl
theorem ml_L_21 : Cond.methodLink "XmppPairLaw" 21 y_X_login ∈ xw_ws := xw_t 343 rfl rfl
theorem im_X_login : Cond.instanceMethod y_X_login ∈ xw_ws := xw_t 344 rfl rfl
theorem sl_X_login : Cond.selects "XmppPair" y_X_login y_X_login ∈ xw_ws := xw_t 345 rfl rfl
theorem cd_X_login : Cond.code y_X_login b_X_login 4 (some .int) ∈ xw_ws := xw_t 346 rfl rfl
theorem ml_L_87 : Cond.methodLink "XmppPairLaw" 87 y_L_prove ∈ xw_ws := xw_t 347 rfl rfl
theorem sm_L_prove : Cond.static y_L_prove ∈ xw_ws := xw_t 348 rfl rfl
theorem cw_L_prove : Cond.codeWith y_L_prove b_L_prove 5 (some .int) [(0, 10, 13, 13), (0, 10, 17, 15), (0, 10, 21, 27)] ∈ xw_ws := xw_t 349 rfl rfl
theorem cl_L_27 : Cond.classLink "XmppPairLaw" 27 "java/lang/UnsupportedOperationException" ∈ xw_ws := xw_t 350 rfl rfl
theorem ml_L_24 : Cond.methodLink "XmppPairLaw" 24 y_X_prove ∈ xw_ws := xw_t 351 rfl rfl
theorem im_X_prove : Cond.instanceMethod y_X_prove ∈ xw_ws := xw_t 352 rfl rfl
theorem sl_X_prove : Cond.selects "XmppPair" y_X_prove y_X_prove ∈ xw_ws := xw_t 353 rfl rfl
theorem cd_X_prove : Cond.code y_X_prove b_X_prove 4 (some .int) ∈ xw_ws := xw_t 354 rfl rfl
theorem ml_X_86 : Cond.methodLink "XmppPair" 86 y_X_isRightProof ∈ xw_ws := xw_t 355 rfl rfl
theorem im_X_isRightProof : Cond.instanceMethod y_X_isRightProof ∈ xw_ws := xw_t 357 rfl rfl
theorem cd_X_isRightProof : Cond.code y_X_isRightProof b_X_isRightProof 4 (some .boolean) ∈ xw_ws := xw_t 358 rfl rfl
theorem cl_X_90 : Cond.classLink "XmppPair" 90 "java/lang/UnsupportedOperationException" ∈ xw_ws := xw_t 359 rfl rfl
theorem ml_L_90 : Cond.methodLink "XmppPairLaw" 90 y_L_bind ∈ xw_ws := xw_t 374 rfl rfl
theorem sm_L_bind : Cond.static y_L_bind ∈ xw_ws := xw_t 375 rfl rfl
theorem cw_L_bind : Cond.codeWith y_L_bind b_L_bind 5 (some .int) [(0, 10, 13, 13), (0, 10, 17, 15)] ∈ xw_ws := xw_t 376 rfl rfl
theorem ml_L_29 : Cond.methodLink "XmppPairLaw" 29 y_X_bind ∈ xw_ws := xw_t 377 rfl rfl
theorem im_X_bind : Cond.instanceMethod y_X_bind ∈ xw_ws := xw_t 378 rfl rfl
theorem sl_X_bind : Cond.selects "XmppPair" y_X_bind y_X_bind ∈ xw_ws := xw_t 379 rfl rfl
theorem cd_X_bind : Cond.code y_X_bind b_X_bind 5 (some .int) ∈ xw_ws := xw_t 380 rfl rfl
theorem ml_X_97 : Cond.methodLink "XmppPair" 97 y_X_shut ∈ xw_ws := xw_t 381 rfl rfl
theorem im_X_shut : Cond.instanceMethod y_X_shut ∈ xw_ws := xw_t 383 rfl rfl
theorem cd_X_shut : Cond.code y_X_shut b_X_shut 2 none ∈ xw_ws := xw_t 384 rfl rfl
theorem ml_X_110 : Cond.methodLink "XmppPair" 110 y_X_sendToWatchers ∈ xw_ws := xw_t 385 rfl rfl
theorem im_X_sendToWatchers : Cond.instanceMethod y_X_sendToWatchers ∈ xw_ws := xw_t 387 rfl rfl
theorem cd_X_sendToWatchers : Cond.code y_X_sendToWatchers b_X_sendToWatchers 5 none ∈ xw_ws := xw_t 388 rfl rfl
theorem ml_X_181 : Cond.methodLink "XmppPair" 181 y_X_presenceOf ∈ xw_ws := xw_t 389 rfl rfl
theorem sm_X_presenceOf : Cond.static y_X_presenceOf ∈ xw_ws := xw_t 390 rfl rfl
theorem cd_X_presenceOf : Cond.code y_X_presenceOf b_X_presenceOf 4 (some (.object "XmppPair$Stanza")) ∈ xw_ws := xw_t 391 rfl rfl
theorem ml_X_123 : Cond.methodLink "XmppPair" 123 y_X_send ∈ xw_ws := xw_t 392 rfl rfl
theorem im_X_send : Cond.instanceMethod y_X_send ∈ xw_ws := xw_t 394 rfl rfl
theorem cd_X_send : Cond.code y_X_send b_X_send 2 none ∈ xw_ws := xw_t 395 rfl rfl
theorem ml_X_188 : Cond.methodLink "XmppPair" 188 y_X_canReach ∈ xw_ws := xw_t 396 rfl rfl
theorem im_X_canReach : Cond.instanceMethod y_X_canReach ∈ xw_ws := xw_t 398 rfl rfl
theorem cd_X_canReach : Cond.code y_X_canReach b_X_canReach 3 (some .boolean) ∈ xw_ws := xw_t 399 rfl rfl
theorem ml_X_178 : Cond.methodLink "XmppPair" 178 y_X_onOneServer ∈ xw_ws := xw_t 400 rfl rfl
set_option maxRecDepth 20000 in
theorem sm_X_onOneServer : Cond.static y_X_onOneServer ∈ xw_ws := xw_t 401 rfl rfl
set_option maxRecDepth 20000 in
theorem cd_X_onOneServer : Cond.code y_X_onOneServer b_X_onOneServer 2 (some .boolean) ∈ xw_ws := xw_t 402 rfl rfl
set_option maxRecDepth 20000 in
theorem ml_L_93 : Cond.methodLink "XmppPairLaw" 93 y_L_here ∈ xw_ws := xw_t 403 rfl rfl
set_option maxRecDepth 20000 in
theorem sm_L_here : Cond.static y_L_here ∈ xw_ws := xw_t 404 rfl rfl
set_option maxRecDepth 20000 in
theorem cw_L_here : Cond.codeWith y_L_here b_L_here 5 (some .int) [(0, 10, 13, 13), (0, 10, 17, 15)] ∈ xw_ws := xw_t 405 rfl rfl
set_option maxRecDepth 20000 in
theorem ml_L_32 : Cond.methodLink "XmppPairLaw" 32 y_X_here ∈ xw_ws := xw_t 406 rfl rfl
set_option maxRecDepth 20000 in
theorem im_X_here : Cond.instanceMethod y_X_here ∈ xw_ws := xw_t 407 rfl rfl
set_option maxRecDepth 20000 in
theorem sl_X_here : Cond.selects "XmppPair" y_X_here y_X_here ∈ xw_ws := xw_t 408 rfl rfl
set_option maxRecDepth 20000 in
theorem cd_X_here : Cond.code y_X_here b_X_here 5 (some .int) ∈ xw_ws := xw_t 409 rfl rfl
set_option maxRecDepth 20000 in
theorem ml_X_114 : Cond.methodLink "XmppPair" 114 y_X_showOthers ∈ xw_ws := xw_t 410 rfl rfl
set_option maxRecDepth 20000 in
theorem im_X_showOthers : Cond.instanceMethod y_X_showOthers ∈ xw_ws := xw_t 412 rfl rfl
set_option maxRecDepth 20000 in
theorem cd_X_showOthers : Cond.code y_X_showOthers b_X_showOthers 4 none ∈ xw_ws := xw_t 413 rfl rfl
set_option maxRecDepth 20000 in
theorem ml_X_191 : Cond.methodLink "XmppPair" 191 y_X_showConnectionsOf ∈ xw_ws := xw_t 414 rfl rfl
set_option maxRecDepth 20000 in
theorem im_X_showConnectionsOf : Cond.instanceMethod y_X_showConnectionsOf ∈ xw_ws := xw_t 416 rfl rfl
set_option maxRecDepth 20000 in
theorem cd_X_showConnectionsOf : Cond.code y_X_showConnectionsOf b_X_showConnectionsOf 7 none ∈ xw_ws := xw_t 417 rfl rfl
set_option maxRecDepth 20000 in
theorem ml_X_117 : Cond.methodLink "XmppPair" 117 y_X_handOverKept ∈ xw_ws := xw_t 418 rfl rfl
set_option maxRecDepth 20000 in
theorem im_X_handOverKept : Cond.instanceMethod y_X_handOverKept ∈ xw_ws := xw_t 420 rfl rfl
set_option maxRecDepth 20000 in
theorem cd_X_handOverKept : Cond.code y_X_handOverKept b_X_handOverKept 5 none ∈ xw_ws := xw_t 421 rfl rfl
set_option maxRecDepth 20000 in
theorem ml_L_96 : Cond.methodLink "XmppPairLaw" 96 y_L_gone ∈ xw_ws := xw_t 422 rfl rfl
set_option maxRecDepth 20000 in
theorem sm_L_gone : Cond.static y_L_gone ∈ xw_ws := xw_t 423 rfl rfl
set_option maxRecDepth 20000 in
theorem cw_L_gone : Cond.codeWith y_L_gone b_L_gone 4 (some .int) [(0, 9, 12, 13), (0, 9, 15, 15)] ∈ xw_ws := xw_t 424 rfl rfl
set_option maxRecDepth 20000 in
theorem ml_L_35 : Cond.methodLink "XmppPairLaw" 35 y_X_gone ∈ xw_ws := xw_t 425 rfl rfl
set_option maxRecDepth 20000 in
theorem im_X_gone : Cond.instanceMethod y_X_gone ∈ xw_ws := xw_t 426 rfl rfl
set_option maxRecDepth 20000 in
theorem sl_X_gone : Cond.selects "XmppPair" y_X_gone y_X_gone ∈ xw_ws := xw_t 427 rfl rfl
set_option maxRecDepth 20000 in
theorem cd_X_gone : Cond.code y_X_gone b_X_gone 3 (some .int) ∈ xw_ws := xw_t 428 rfl rfl
set_option maxRecDepth 20000 in
theorem ml_L_99 : Cond.methodLink "XmppPairLaw" 99 y_L_close ∈ xw_ws := xw_t 429 rfl rfl
set_option maxRecDepth 20000 in
theorem sm_L_close : Cond.static y_L_close ∈ xw_ws := xw_t 430 rfl rfl
set_option maxRecDepth 20000 in
theorem cw_L_close : Cond.codeWith y_L_close b_L_close 4 (some .int) [(0, 9, 12, 13), (0, 9, 15, 15)] ∈ xw_ws := xw_t 431 rfl rfl
set_option maxRecDepth 20000 in
theorem ml_L_38 : Cond.methodLink "XmppPairLaw" 38 y_X_close ∈ xw_ws := xw_t 432 rfl rfl
set_option maxRecDepth 20000 in
theorem im_X_close : Cond.instanceMethod y_X_close ∈ xw_ws := xw_t 433 rfl rfl
set_option maxRecDepth 20000 in
theorem sl_X_close : Cond.selects "XmppPair" y_X_close y_X_close ∈ xw_ws := xw_t 434 rfl rfl
set_option maxRecDepth 20000 in
theorem cd_X_close : Cond.code y_X_close b_X_close 4 (some .int) ∈ xw_ws := xw_t 435 rfl rfl
set_option maxRecDepth 20000 in
theorem ml_L_102 : Cond.methodLink "XmppPairLaw" 102 y_L_message ∈ xw_ws := xw_t 436 rfl rfl
set_option maxRecDepth 20000 in
theorem sm_L_message : Cond.static y_L_message ∈ xw_ws := xw_t 437 rfl rfl
set_option maxRecDepth 20000 in
theorem cw_L_message : Cond.codeWith y_L_message b_L_message 7 (some .int) [(0, 14, 17, 13), (0, 14, 21, 15)] ∈ xw_ws := xw_t 438 rfl rfl
set_option maxRecDepth 20000 in
theorem ml_L_41 : Cond.methodLink "XmppPairLaw" 41 y_X_message ∈ xw_ws := xw_t 439 rfl rfl
set_option maxRecDepth 20000 in
theorem im_X_message : Cond.instanceMethod y_X_message ∈ xw_ws := xw_t 440 rfl rfl
set_option maxRecDepth 20000 in
theorem sl_X_message : Cond.selects "XmppPair" y_X_message y_X_message ∈ xw_ws := xw_t 441 rfl rfl
set_option maxRecDepth 20000 in
theorem cd_X_message : Cond.code y_X_message b_X_message 6 (some .int) ∈ xw_ws := xw_t 442 rfl rfl
set_option maxRecDepth 20000 in
theorem ml_L_106 : Cond.methodLink "XmppPairLaw" 106 y_L_subscribe ∈ xw_ws := xw_t 443 rfl rfl
set_option maxRecDepth 20000 in
theorem sm_L_subscribe : Cond.static y_L_subscribe ∈ xw_ws := xw_t 444 rfl rfl
set_option maxRecDepth 20000 in
theorem cw_L_subscribe : Cond.codeWith y_L_subscribe b_L_subscribe 6 (some .int) [(0, 12, 15, 13), (0, 12, 19, 15)] ∈ xw_ws := xw_t 445 rfl rfl
set_option maxRecDepth 20000 in
theorem ml_L_45 : Cond.methodLink "XmppPairLaw" 45 y_X_subscribe ∈ xw_ws := xw_t 446 rfl rfl
set_option maxRecDepth 20000 in
theorem im_X_subscribe : Cond.instanceMethod y_X_subscribe ∈ xw_ws := xw_t 447 rfl rfl
set_option maxRecDepth 20000 in
theorem sl_X_subscribe : Cond.selects "XmppPair" y_X_subscribe y_X_subscribe ∈ xw_ws := xw_t 448 rfl rfl
set_option maxRecDepth 20000 in
theorem cd_X_subscribe : Cond.code y_X_subscribe b_X_subscribe 6 (some .int) ∈ xw_ws := xw_t 449 rfl rfl
set_option maxRecDepth 20000 in
theorem ml_X_130 : Cond.methodLink "XmppPair" 130 y_X_sendPresences ∈ xw_ws := xw_t 450 rfl rfl
set_option maxRecDepth 20000 in
theorem im_X_sendPresences : Cond.instanceMethod y_X_sendPresences ∈ xw_ws := xw_t 452 rfl rfl
set_option maxRecDepth 20000 in
theorem cd_X_sendPresences : Cond.code y_X_sendPresences b_X_sendPresences 8 none ∈ xw_ws := xw_t 453 rfl rfl
set_option maxRecDepth 20000 in
theorem ml_X_134 : Cond.methodLink "XmppPair" 134 y_X_changeOwnMarks ∈ xw_ws := xw_t 454 rfl rfl
set_option maxRecDepth 20000 in
theorem sm_X_changeOwnMarks : Cond.static y_X_changeOwnMarks ∈ xw_ws := xw_t 455 rfl rfl
set_option maxRecDepth 20000 in
theorem cd_X_changeOwnMarks : Cond.code y_X_changeOwnMarks b_X_changeOwnMarks 3 none ∈ xw_ws := xw_t 456 rfl rfl
set_option maxRecDepth 20000 in
theorem ml_L_115 : Cond.methodLink "XmppPairLaw" 115 y_L_take ∈ xw_ws := xw_t 457 rfl rfl
set_option maxRecDepth 20000 in
theorem sm_L_take : Cond.static y_L_take ∈ xw_ws := xw_t 458 rfl rfl
set_option maxRecDepth 20000 in
theorem cw_L_take : Cond.codeWith y_L_take b_L_take 4 (some .int) [(0, 9, 12, 13), (0, 9, 15, 52)] ∈ xw_ws := xw_t 459 rfl rfl
set_option maxRecDepth 20000 in
theorem cl_L_52 : Cond.classLink "XmppPairLaw" 52 "java/util/NoSuchElementException" ∈ xw_ws := xw_t 460 rfl rfl
set_option maxRecDepth 20000 in
theorem ml_L_49 : Cond.methodLink "XmppPairLaw" 49 y_X_take ∈ xw_ws := xw_t 461 rfl rfl
set_option maxRecDepth 20000 in
theorem im_X_take : Cond.instanceMethod y_X_take ∈ xw_ws := xw_t 462 rfl rfl
set_option maxRecDepth 20000 in
theorem sl_X_take : Cond.selects "XmppPair" y_X_take y_X_take ∈ xw_ws := xw_t 463 rfl rfl
set_option maxRecDepth 20000 in
theorem cd_X_take : Cond.code y_X_take b_X_take 4 (some .int) ∈ xw_ws := xw_t 464 rfl rfl
set_option maxRecDepth 20000 in
theorem cl_X_145 : Cond.classLink "XmppPair" 145 "java/util/NoSuchElementException" ∈ xw_ws := xw_t 465 rfl rfl
set_option maxRecDepth 20000 in
theorem ml_L_118 : Cond.methodLink "XmppPairLaw" 118 y_L_taken ∈ xw_ws := xw_t 480 rfl rfl
set_option maxRecDepth 20000 in
theorem sm_L_taken : Cond.static y_L_taken ∈ xw_ws := xw_t 481 rfl rfl
set_option maxRecDepth 20000 in
theorem cw_L_taken : Cond.codeWith y_L_taken b_L_taken 4 (some .int) [(0, 9, 12, 52), (0, 9, 15, 13)] ∈ xw_ws := xw_t 482 rfl rfl
set_option maxRecDepth 20000 in
theorem ml_L_54 : Cond.methodLink "XmppPairLaw" 54 y_X_taken ∈ xw_ws := xw_t 483 rfl rfl
set_option maxRecDepth 20000 in
theorem im_X_taken : Cond.instanceMethod y_X_taken ∈ xw_ws := xw_t 484 rfl rfl
set_option maxRecDepth 20000 in
theorem sl_X_taken : Cond.selects "XmppPair" y_X_taken y_X_taken ∈ xw_ws := xw_t 485 rfl rfl
set_option maxRecDepth 20000 in
theorem cd_X_taken : Cond.code y_X_taken b_X_taken 3 (some .int) ∈ xw_ws := xw_t 486 rfl rfl
set_option maxRecDepth 20000 in
theorem ml_L_121 : Cond.methodLink "XmppPairLaw" 121 y_L_roster ∈ xw_ws := xw_t 487 rfl rfl
set_option maxRecDepth 20000 in
theorem sm_L_roster : Cond.static y_L_roster ∈ xw_ws := xw_t 488 rfl rfl
set_option maxRecDepth 20000 in
theorem cw_L_roster : Cond.codeWith y_L_roster b_L_roster 5 (some .int) [(0, 10, 13, 13)] ∈ xw_ws := xw_t 489 rfl rfl
set_option maxRecDepth 20000 in
theorem ml_L_57 : Cond.methodLink "XmppPairLaw" 57 y_X_roster ∈ xw_ws := xw_t 490 rfl rfl
set_option maxRecDepth 20000 in
theorem im_X_roster : Cond.instanceMethod y_X_roster ∈ xw_ws := xw_t 491 rfl rfl
set_option maxRecDepth 20000 in
theorem sl_X_roster : Cond.selects "XmppPair" y_X_roster y_X_roster ∈ xw_ws := xw_t 492 rfl rfl
set_option maxRecDepth 20000 in
theorem cd_X_roster : Cond.code y_X_roster b_X_roster 3 (some .int) ∈ xw_ws := xw_t 493 rfl rfl
set_option maxRecDepth 20000 in
theorem ml_L_124 : Cond.methodLink "XmppPairLaw" 124 y_L_connection ∈ xw_ws := xw_t 494 rfl rfl
set_option maxRecDepth 20000 in
theorem sm_L_connection : Cond.static y_L_connection ∈ xw_ws := xw_t 495 rfl rfl
set_option maxRecDepth 20000 in
theorem cw_L_connection : Cond.codeWith y_L_connection b_L_connection 5 (some .int) [(0, 10, 13, 13)] ∈ xw_ws := xw_t 496 rfl rfl
set_option maxRecDepth 20000 in
theorem ml_L_60 : Cond.methodLink "XmppPairLaw" 60 y_X_connection ∈ xw_ws := xw_t 497 rfl rfl
set_option maxRecDepth 20000 in
theorem im_X_connection : Cond.instanceMethod y_X_connection ∈ xw_ws := xw_t 498 rfl rfl
set_option maxRecDepth 20000 in
theorem sl_X_connection : Cond.selects "XmppPair" y_X_connection y_X_connection ∈ xw_ws := xw_t 499 rfl rfl
set_option maxRecDepth 20000 in
theorem cd_X_connection : Cond.code y_X_connection b_X_connection 4 (some .int) ∈ xw_ws := xw_t 500 rfl rfl
set_option maxRecDepth 20000 in
theorem ml_L_127 : Cond.methodLink "XmppPairLaw" 127 y_L_count ∈ xw_ws := xw_t 501 rfl rfl
set_option maxRecDepth 20000 in
theorem sm_L_count : Cond.static y_L_count ∈ xw_ws := xw_t 502 rfl rfl
set_option maxRecDepth 20000 in
theorem cw_L_count : Cond.codeWith y_L_count b_L_count 4 (some .int) [(0, 9, 12, 13)] ∈ xw_ws := xw_t 503 rfl rfl
set_option maxRecDepth 20000 in
theorem ml_L_63 : Cond.methodLink "XmppPairLaw" 63 y_X_count ∈ xw_ws := xw_t 504 rfl rfl
set_option maxRecDepth 20000 in
theorem im_X_count : Cond.instanceMethod y_X_count ∈ xw_ws := xw_t 505 rfl rfl
set_option maxRecDepth 20000 in
theorem sl_X_count : Cond.selects "XmppPair" y_X_count y_X_count ∈ xw_ws := xw_t 506 rfl rfl
set_option maxRecDepth 20000 in
theorem cd_X_count : Cond.code y_X_count b_X_count 2 (some .int) ∈ xw_ws := xw_t 507 rfl rfl
set_option maxRecDepth 20000 in
theorem ml_X_165 : Cond.methodLink "XmppPair" 165 y_X_keptForAll ∈ xw_ws := xw_t 508 rfl rfl
set_option maxRecDepth 20000 in
theorem im_X_keptForAll : Cond.instanceMethod y_X_keptForAll ∈ xw_ws := xw_t 510 rfl rfl
set_option maxRecDepth 20000 in
theorem cd_X_keptForAll : Cond.code y_X_keptForAll b_X_keptForAll 6 (some .int) ∈ xw_ws := xw_t 511 rfl rfl
set_option maxRecDepth 20000 in
theorem ml_X_169 : Cond.methodLink "XmppPair" 169 y_X_lostByAll ∈ xw_ws := xw_t 512 rfl rfl
set_option maxRecDepth 20000 in
theorem im_X_lostByAll : Cond.instanceMethod y_X_lostByAll ∈ xw_ws := xw_t 514 rfl rfl
set_option maxRecDepth 20000 in
theorem cd_X_lostByAll : Cond.code y_X_lostByAll b_X_lostByAll 6 (some .int) ∈ xw_ws := xw_t 515 rfl rfl
set_option maxRecDepth 20000 in
theorem cl_L_67 : Cond.classLink "XmppPairLaw" 67 "XmppPairModel" ∈ xw_ws := xw_t 516 rfl rfl
set_option maxRecDepth 20000 in
theorem is_U : Cond.instantiable "XmppPairModel" 34 ∈ xw_ws := xw_t 517 rfl rfl
set_option maxRecDepth 20000 in
theorem ml_L_69 : Cond.methodLink "XmppPairLaw" 69 y_U_init ∈ xw_ws := xw_t 518 rfl rfl
set_option maxRecDepth 20000 in
theorem im_U_init : Cond.instanceMethod y_U_init ∈ xw_ws := xw_t 519 rfl rfl
set_option maxRecDepth 20000 in
theorem cd_U_init : Cond.code y_U_init b_U_init 1 none ∈ xw_ws := xw_t 520 rfl rfl
set_option maxRecDepth 20000 in
theorem ml_U_1 : Cond.methodLink "XmppPairModel" 1 objectInit ∈ xw_ws := xw_t 521 rfl rfl
set_option maxRecDepth 20000 in
theorem lk_U_87 : Cond.fieldLink "XmppPairModel" 87 "XmppPairModel" "thrown" "I" ∈ xw_ws := xw_t 522 rfl rfl
set_option maxRecDepth 20000 in
theorem lk_U_7 : Cond.fieldLink "XmppPairModel" 7 "XmppPairModel" "registered" "[Z" ∈ xw_ws := xw_t 523 rfl rfl
set_option maxRecDepth 20000 in
theorem lk_U_13 : Cond.fieldLink "XmppPairModel" 13 "XmppPairModel" "password" "[I" ∈ xw_ws := xw_t 524 rfl rfl
set_option maxRecDepth 20000 in
theorem lk_U_17 : Cond.fieldLink "XmppPairModel" 17 "XmppPairModel" "marks" "[I" ∈ xw_ws := xw_t 525 rfl rfl
set_option maxRecDepth 20000 in
theorem lk_U_20 : Cond.fieldLink "XmppPairModel" 20 "XmppPairModel" "stage" "[I" ∈ xw_ws := xw_t 526 rfl rfl
set_option maxRecDepth 20000 in
theorem lk_U_23 : Cond.fieldLink "XmppPairModel" 23 "XmppPairModel" "account" "[I" ∈ xw_ws := xw_t 527 rfl rfl
set_option maxRecDepth 20000 in
theorem lk_U_26 : Cond.fieldLink "XmppPairModel" 26 "XmppPairModel" "resource" "[I" ∈ xw_ws := xw_t 528 rfl rfl
set_option maxRecDepth 20000 in
theorem lk_U_29 : Cond.fieldLink "XmppPairModel" 29 "XmppPairModel" "available" "[Z" ∈ xw_ws := xw_t 529 rfl rfl
set_option maxRecDepth 20000 in
theorem lk_U_32 : Cond.fieldLink "XmppPairModel" 32 "XmppPairModel" "priority" "[I" ∈ xw_ws := xw_t 530 rfl rfl
set_option maxRecDepth 20000 in
theorem lk_U_35 : Cond.fieldLink "XmppPairModel" 35 "XmppPairModel" "challenge" "[I" ∈ xw_ws := xw_t 531 rfl rfl
set_option maxRecDepth 20000 in
theorem lk_U_149 : Cond.fieldLink "XmppPairModel" 149 "XmppPairModel" "challenges" "I" ∈ xw_ws := xw_t 532 rfl rfl
set_option maxRecDepth 20000 in
theorem lk_U_38 : Cond.fieldLink "XmppPairModel" 38 "XmppPairModel" "inKind" "[I" ∈ xw_ws := xw_t 533 rfl rfl
set_option maxRecDepth 20000 in
theorem lk_U_41 : Cond.fieldLink "XmppPairModel" 41 "XmppPairModel" "inFrom" "[I" ∈ xw_ws := xw_t 534 rfl rfl
set_option maxRecDepth 20000 in
theorem lk_U_44 : Cond.fieldLink "XmppPairModel" 44 "XmppPairModel" "inResource" "[I" ∈ xw_ws := xw_t 535 rfl rfl
set_option maxRecDepth 20000 in
theorem lk_U_47 : Cond.fieldLink "XmppPairModel" 47 "XmppPairModel" "inValue" "[I" ∈ xw_ws := xw_t 536 rfl rfl
set_option maxRecDepth 20000 in
theorem lk_U_50 : Cond.fieldLink "XmppPairModel" 50 "XmppPairModel" "held" "[I" ∈ xw_ws := xw_t 537 rfl rfl
set_option maxRecDepth 20000 in
theorem lk_U_53 : Cond.fieldLink "XmppPairModel" 53 "XmppPairModel" "keptFrom" "[I" ∈ xw_ws := xw_t 538 rfl rfl
set_option maxRecDepth 20000 in
theorem lk_U_56 : Cond.fieldLink "XmppPairModel" 56 "XmppPairModel" "keptResource" "[I" ∈ xw_ws := xw_t 539 rfl rfl
set_option maxRecDepth 20000 in
theorem lk_U_59 : Cond.fieldLink "XmppPairModel" 59 "XmppPairModel" "keptBody" "[I" ∈ xw_ws := xw_t 540 rfl rfl
set_option maxRecDepth 20000 in
theorem lk_U_62 : Cond.fieldLink "XmppPairModel" 62 "XmppPairModel" "kept" "[I" ∈ xw_ws := xw_t 541 rfl rfl
set_option maxRecDepth 20000 in
theorem lk_U_65 : Cond.fieldLink "XmppPairModel" 65 "XmppPairModel" "wKind" "[I" ∈ xw_ws := xw_t 542 rfl rfl
set_option maxRecDepth 20000 in
theorem lk_U_68 : Cond.fieldLink "XmppPairModel" 68 "XmppPairModel" "wFrom" "[I" ∈ xw_ws := xw_t 543 rfl rfl
set_option maxRecDepth 20000 in
theorem lk_U_71 : Cond.fieldLink "XmppPairModel" 71 "XmppPairModel" "wTo" "[I" ∈ xw_ws := xw_t 544 rfl rfl
set_option maxRecDepth 20000 in
theorem lk_U_74 : Cond.fieldLink "XmppPairModel" 74 "XmppPairModel" "wResource" "[I" ∈ xw_ws := xw_t 545 rfl rfl
set_option maxRecDepth 20000 in
theorem lk_U_77 : Cond.fieldLink "XmppPairModel" 77 "XmppPairModel" "wValue" "[I" ∈ xw_ws := xw_t 546 rfl rfl
set_option maxRecDepth 20000 in
theorem lk_U_80 : Cond.fieldLink "XmppPairModel" 80 "XmppPairModel" "wTarget" "[I" ∈ xw_ws := xw_t 547 rfl rfl
set_option maxRecDepth 20000 in
theorem lk_U_126 : Cond.fieldLink "XmppPairModel" 126 "XmppPairModel" "waiting" "I" ∈ xw_ws := xw_t 548 rfl rfl
set_option maxRecDepth 20000 in
theorem lk_U_83 : Cond.fieldLink "XmppPairModel" 83 "XmppPairModel" "up" "Z" ∈ xw_ws := xw_t 549 rfl rfl
set_option maxRecDepth 20000 in
theorem lk_U_95 : Cond.fieldLink "XmppPairModel" 95 "XmppPairModel" "lost" "I" ∈ xw_ws := xw_t 550 rfl rfl
set_option maxRecDepth 20000 in
theorem lk_U_112 : Cond.fieldLink "XmppPairModel" 112 "XmppPairModel" "reply" "I" ∈ xw_ws := xw_t 551 rfl rfl
set_option maxRecDepth 20000 in
theorem lk_U_173 : Cond.fieldLink "XmppPairModel" 173 "XmppPairModel" "took" "Z" ∈ xw_ws := xw_t 552 rfl rfl
set_option maxRecDepth 20000 in
theorem lk_U_176 : Cond.fieldLink "XmppPairModel" 176 "XmppPairModel" "tookFrom" "I" ∈ xw_ws := xw_t 553 rfl rfl
set_option maxRecDepth 20000 in
theorem lk_U_179 : Cond.fieldLink "XmppPairModel" 179 "XmppPairModel" "tookResource" "I" ∈ xw_ws := xw_t 554 rfl rfl
set_option maxRecDepth 20000 in
theorem lk_U_182 : Cond.fieldLink "XmppPairModel" 182 "XmppPairModel" "tookValue" "I" ∈ xw_ws := xw_t 555 rfl rfl
set_option maxRecDepth 20000 in
theorem ar_boolean : Cond.arrayClass .boolean ∈ xw_ws := xw_t 625 rfl rfl
set_option maxRecDepth 20000 in
theorem ml_L_76 : Cond.methodLink "XmppPairLaw" 76 y_U_thrown ∈ xw_ws := xw_t 626 rfl rfl
set_option maxRecDepth 20000 in
theorem im_U_thrown : Cond.instanceMethod y_U_thrown ∈ xw_ws := xw_t 627 rfl rfl
set_option maxRecDepth 20000 in
theorem sl_U_thrown : Cond.selects "XmppPairModel" y_U_thrown y_U_thrown ∈ xw_ws := xw_t 628 rfl rfl
set_option maxRecDepth 20000 in
theorem cd_U_thrown : Cond.code y_U_thrown b_U_thrown 1 (some .int) ∈ xw_ws := xw_t 629 rfl rfl
set_option maxRecDepth 20000 in
theorem ml_L_75 : Cond.methodLink "XmppPairLaw" 75 y_U_register ∈ xw_ws := xw_t 630 rfl rfl
set_option maxRecDepth 20000 in
theorem im_U_register : Cond.instanceMethod y_U_register ∈ xw_ws := xw_t 631 rfl rfl
set_option maxRecDepth 20000 in
theorem sl_U_register : Cond.selects "XmppPairModel" y_U_register y_U_register ∈ xw_ws := xw_t 632 rfl rfl
set_option maxRecDepth 20000 in
theorem cd_U_register : Cond.code y_U_register b_U_register 3 (some .int) ∈ xw_ws := xw_t 633 rfl rfl
set_option maxRecDepth 20000 in
theorem ml_U_136 : Cond.methodLink "XmppPairModel" 136 y_U_isAccount ∈ xw_ws := xw_t 634 rfl rfl
set_option maxRecDepth 20000 in
theorem sm_U_isAccount : Cond.static y_U_isAccount ∈ xw_ws := xw_t 635 rfl rfl
set_option maxRecDepth 20000 in
theorem cd_U_isAccount : Cond.code y_U_isAccount b_U_isAccount 1 (some .boolean) ∈ xw_ws := xw_t 636 rfl rfl
set_option maxRecDepth 20000 in
theorem ml_U_91 : Cond.methodLink "XmppPairModel" 91 y_U_in ∈ xw_ws := xw_t 637 rfl rfl
set_option maxRecDepth 20000 in
theorem sm_U_in : Cond.static y_U_in ∈ xw_ws := xw_t 638 rfl rfl
set_option maxRecDepth 20000 in
theorem cd_U_in : Cond.code y_U_in b_U_in 3 (some .boolean) ∈ xw_ws := xw_t 639 rfl rfl
set_option maxRecDepth 20000 in
theorem ml_U_140 : Cond.methodLink "XmppPairModel" 140 y_U_raise ∈ xw_ws := xw_t 640 rfl rfl
set_option maxRecDepth 20000 in
theorem im_U_raise : Cond.instanceMethod y_U_raise ∈ xw_ws := xw_t 642 rfl rfl
set_option maxRecDepth 20000 in
theorem cd_U_raise : Cond.code y_U_raise b_U_raise 2 (some .int) ∈ xw_ws := xw_t 643 rfl rfl
set_option maxRecDepth 20000 in
theorem ml_L_83 : Cond.methodLink "XmppPairLaw" 83 y_U_connect ∈ xw_ws := xw_t 644 rfl rfl
set_option maxRecDepth 20000 in
theorem im_U_connect : Cond.instanceMethod y_U_connect ∈ xw_ws := xw_t 645 rfl rfl
set_option maxRecDepth 20000 in
theorem sl_U_connect : Cond.selects "XmppPairModel" y_U_connect y_U_connect ∈ xw_ws := xw_t 646 rfl rfl
set_option maxRecDepth 20000 in
theorem cd_U_connect : Cond.code y_U_connect b_U_connect 2 (some .int) ∈ xw_ws := xw_t 647 rfl rfl
set_option maxRecDepth 20000 in
theorem ml_U_144 : Cond.methodLink "XmppPairModel" 144 y_U_isConnection ∈ xw_ws := xw_t 648 rfl rfl
set_option maxRecDepth 20000 in
theorem sm_U_isConnection : Cond.static y_U_isConnection ∈ xw_ws := xw_t 649 rfl rfl
set_option maxRecDepth 20000 in
theorem cd_U_isConnection : Cond.code y_U_isConnection b_U_isConnection 1 (some .boolean) ∈ xw_ws := xw_t 650 rfl rfl
set_option maxRecDepth 20000 in
theorem ml_L_86 : Cond.methodLink "XmppPairLaw" 86 y_U_login ∈ xw_ws := xw_t 651 rfl rfl
set_option maxRecDepth 20000 in
theorem im_U_login : Cond.instanceMethod y_U_login ∈ xw_ws := xw_t 652 rfl rfl
set_option maxRecDepth 20000 in
theorem sl_U_login : Cond.selects "XmppPairModel" y_U_login y_U_login ∈ xw_ws := xw_t 653 rfl rfl
set_option maxRecDepth 20000 in
theorem cd_U_login : Cond.code y_U_login b_U_login 3 (some .int) ∈ xw_ws := xw_t 654 rfl rfl
set_option maxRecDepth 20000 in
theorem kl_147 : Cond.constantLong "XmppPairModel" 147 7919 ∈ xw_ws := xw_t 655 rfl rfl
set_option maxRecDepth 20000 in
theorem kl_152 : Cond.constantLong "XmppPairModel" 152 4242 ∈ xw_ws := xw_t 656 rfl rfl
set_option maxRecDepth 20000 in
theorem kl_154 : Cond.constantLong "XmppPairModel" 154 10000 ∈ xw_ws := xw_t 657 rfl rfl
set_option maxRecDepth 20000 in
theorem ml_L_89 : Cond.methodLink "XmppPairLaw" 89 y_U_prove ∈ xw_ws := xw_t 658 rfl rfl
set_option maxRecDepth 20000 in
theorem im_U_prove : Cond.instanceMethod y_U_prove ∈ xw_ws := xw_t 659 rfl rfl
set_option maxRecDepth 20000 in
theorem sl_U_prove : Cond.selects "XmppPairModel" y_U_prove y_U_prove ∈ xw_ws := xw_t 660 rfl rfl
set_option maxRecDepth 20000 in
theorem cd_U_prove : Cond.code y_U_prove b_U_prove 4 (some .int) ∈ xw_ws := xw_t 661 rfl rfl
set_option maxRecDepth 20000 in
theorem ml_L_92 : Cond.methodLink "XmppPairLaw" 92 y_U_bind ∈ xw_ws := xw_t 662 rfl rfl
set_option maxRecDepth 20000 in
theorem im_U_bind : Cond.instanceMethod y_U_bind ∈ xw_ws := xw_t 663 rfl rfl
set_option maxRecDepth 20000 in
theorem sl_U_bind : Cond.selects "XmppPairModel" y_U_bind y_U_bind ∈ xw_ws := xw_t 664 rfl rfl
set_option maxRecDepth 20000 in
theorem cd_U_bind : Cond.code y_U_bind b_U_bind 5 (some .int) ∈ xw_ws := xw_t 665 rfl rfl
set_option maxRecDepth 20000 in
theorem ml_U_163 : Cond.methodLink "XmppPairModel" 163 y_U_shut ∈ xw_ws := xw_t 666 rfl rfl
set_option maxRecDepth 20000 in
theorem im_U_shut : Cond.instanceMethod y_U_shut ∈ xw_ws := xw_t 668 rfl rfl
set_option maxRecDepth 20000 in
theorem cd_U_shut : Cond.code y_U_shut b_U_shut 2 none ∈ xw_ws := xw_t 669 rfl rfl
set_option maxRecDepth 20000 in
theorem ml_U_159 : Cond.methodLink "XmppPairModel" 159 y_U_tell ∈ xw_ws := xw_t 670 rfl rfl
set_option maxRecDepth 20000 in
theorem im_U_tell : Cond.instanceMethod y_U_tell ∈ xw_ws := xw_t 672 rfl rfl
set_option maxRecDepth 20000 in
theorem cd_U_tell : Cond.code y_U_tell b_U_tell 5 none ∈ xw_ws := xw_t 673 rfl rfl
set_option maxRecDepth 20000 in
theorem ml_U_102 : Cond.methodLink "XmppPairModel" 102 y_U_marked ∈ xw_ws := xw_t 674 rfl rfl
set_option maxRecDepth 20000 in
theorem im_U_marked : Cond.instanceMethod y_U_marked ∈ xw_ws := xw_t 676 rfl rfl
set_option maxRecDepth 20000 in
theorem cd_U_marked : Cond.code y_U_marked b_U_marked 4 (some .boolean) ∈ xw_ws := xw_t 677 rfl rfl
set_option maxRecDepth 20000 in
theorem ml_U_156 : Cond.methodLink "XmppPairModel" 156 y_U_send ∈ xw_ws := xw_t 678 rfl rfl
set_option maxRecDepth 20000 in
theorem im_U_send : Cond.instanceMethod y_U_send ∈ xw_ws := xw_t 680 rfl rfl
set_option maxRecDepth 20000 in
theorem cd_U_send : Cond.code y_U_send b_U_send 12 none ∈ xw_ws := xw_t 681 rfl rfl
set_option maxRecDepth 20000 in
theorem ml_U_129 : Cond.methodLink "XmppPairModel" 129 y_U_hold ∈ xw_ws := xw_t 682 rfl rfl
set_option maxRecDepth 20000 in
theorem im_U_hold : Cond.instanceMethod y_U_hold ∈ xw_ws := xw_t 684 rfl rfl
set_option maxRecDepth 20000 in
theorem cd_U_hold : Cond.code y_U_hold b_U_hold 7 none ∈ xw_ws := xw_t 685 rfl rfl
set_option maxRecDepth 20000 in
theorem ml_U_109 : Cond.methodLink "XmppPairModel" 109 y_U_putAll ∈ xw_ws := xw_t 686 rfl rfl
set_option maxRecDepth 20000 in
theorem im_U_putAll : Cond.instanceMethod y_U_putAll ∈ xw_ws := xw_t 688 rfl rfl
set_option maxRecDepth 20000 in
theorem cd_U_putAll : Cond.code y_U_putAll b_U_putAll 7 none ∈ xw_ws := xw_t 689 rfl rfl
set_option maxRecDepth 20000 in
theorem ml_U_98 : Cond.methodLink "XmppPairModel" 98 y_U_put ∈ xw_ws := xw_t 690 rfl rfl
set_option maxRecDepth 20000 in
theorem im_U_put : Cond.instanceMethod y_U_put ∈ xw_ws := xw_t 692 rfl rfl
set_option maxRecDepth 20000 in
theorem cd_U_put : Cond.code y_U_put b_U_put 7 none ∈ xw_ws := xw_t 693 rfl rfl
set_option maxRecDepth 20000 in
theorem ml_U_133 : Cond.methodLink "XmppPairModel" 133 y_U_arrive ∈ xw_ws := xw_t 694 rfl rfl
set_option maxRecDepth 20000 in
theorem im_U_arrive : Cond.instanceMethod y_U_arrive ∈ xw_ws := xw_t 696 rfl rfl
set_option maxRecDepth 20000 in
theorem cd_U_arrive : Cond.code y_U_arrive b_U_arrive 7 none ∈ xw_ws := xw_t 697 rfl rfl
set_option maxRecDepth 20000 in
theorem ml_U_115 : Cond.methodLink "XmppPairModel" 115 y_U_route ∈ xw_ws := xw_t 698 rfl rfl
set_option maxRecDepth 20000 in
theorem im_U_route : Cond.instanceMethod y_U_route ∈ xw_ws := xw_t 700 rfl rfl
set_option maxRecDepth 20000 in
theorem cd_U_route : Cond.code y_U_route b_U_route 8 (some .int) ∈ xw_ws := xw_t 701 rfl rfl
set_option maxRecDepth 20000 in
theorem ml_U_119 : Cond.methodLink "XmppPairModel" 119 y_U_mark ∈ xw_ws := xw_t 702 rfl rfl
set_option maxRecDepth 20000 in
theorem im_U_mark : Cond.instanceMethod y_U_mark ∈ xw_ws := xw_t 704 rfl rfl
set_option maxRecDepth 20000 in
theorem cd_U_mark : Cond.code y_U_mark b_U_mark 4 none ∈ xw_ws := xw_t 705 rfl rfl
set_option maxRecDepth 20000 in
theorem ml_U_105 : Cond.methodLink "XmppPairModel" 105 y_U_unmark ∈ xw_ws := xw_t 706 rfl rfl
set_option maxRecDepth 20000 in
theorem im_U_unmark : Cond.instanceMethod y_U_unmark ∈ xw_ws := xw_t 708 rfl rfl
set_option maxRecDepth 20000 in
theorem cd_U_unmark : Cond.code y_U_unmark b_U_unmark 4 none ∈ xw_ws := xw_t 709 rfl rfl
set_option maxRecDepth 20000 in
theorem ml_U_122 : Cond.methodLink "XmppPairModel" 122 y_U_end ∈ xw_ws := xw_t 710 rfl rfl
set_option maxRecDepth 20000 in
theorem im_U_end : Cond.instanceMethod y_U_end ∈ xw_ws := xw_t 712 rfl rfl
set_option maxRecDepth 20000 in
theorem cd_U_end : Cond.code y_U_end b_U_end 5 none ∈ xw_ws := xw_t 713 rfl rfl
set_option maxRecDepth 20000 in
theorem ml_L_95 : Cond.methodLink "XmppPairLaw" 95 y_U_here ∈ xw_ws := xw_t 714 rfl rfl
set_option maxRecDepth 20000 in
theorem im_U_here : Cond.instanceMethod y_U_here ∈ xw_ws := xw_t 715 rfl rfl
set_option maxRecDepth 20000 in
theorem sl_U_here : Cond.selects "XmppPairModel" y_U_here y_U_here ∈ xw_ws := xw_t 716 rfl rfl
set_option maxRecDepth 20000 in
theorem cd_U_here : Cond.code y_U_here b_U_here 4 (some .int) ∈ xw_ws := xw_t 717 rfl rfl
set_option maxRecDepth 20000 in
theorem ml_U_167 : Cond.methodLink "XmppPairModel" 167 y_U_welcome ∈ xw_ws := xw_t 718 rfl rfl
set_option maxRecDepth 20000 in
theorem im_U_welcome : Cond.instanceMethod y_U_welcome ∈ xw_ws := xw_t 720 rfl rfl
set_option maxRecDepth 20000 in
theorem cd_U_welcome : Cond.code y_U_welcome b_U_welcome 5 none ∈ xw_ws := xw_t 721 rfl rfl
set_option maxRecDepth 20000 in
theorem ml_L_98 : Cond.methodLink "XmppPairLaw" 98 y_U_gone ∈ xw_ws := xw_t 722 rfl rfl
set_option maxRecDepth 20000 in
theorem im_U_gone : Cond.instanceMethod y_U_gone ∈ xw_ws := xw_t 723 rfl rfl
set_option maxRecDepth 20000 in
theorem sl_U_gone : Cond.selects "XmppPairModel" y_U_gone y_U_gone ∈ xw_ws := xw_t 724 rfl rfl
set_option maxRecDepth 20000 in
theorem cd_U_gone : Cond.code y_U_gone b_U_gone 2 (some .int) ∈ xw_ws := xw_t 725 rfl rfl
set_option maxRecDepth 20000 in
theorem ml_L_101 : Cond.methodLink "XmppPairLaw" 101 y_U_close ∈ xw_ws := xw_t 726 rfl rfl
set_option maxRecDepth 20000 in
theorem im_U_close : Cond.instanceMethod y_U_close ∈ xw_ws := xw_t 727 rfl rfl
set_option maxRecDepth 20000 in
theorem sl_U_close : Cond.selects "XmppPairModel" y_U_close y_U_close ∈ xw_ws := xw_t 728 rfl rfl
set_option maxRecDepth 20000 in
theorem cd_U_close : Cond.code y_U_close b_U_close 3 (some .int) ∈ xw_ws := xw_t 729 rfl rfl
set_option maxRecDepth 20000 in
theorem ml_L_105 : Cond.methodLink "XmppPairLaw" 105 y_U_message ∈ xw_ws := xw_t 730 rfl rfl
set_option maxRecDepth 20000 in
theorem im_U_message : Cond.instanceMethod y_U_message ∈ xw_ws := xw_t 731 rfl rfl
set_option maxRecDepth 20000 in
theorem sl_U_message : Cond.selects "XmppPairModel" y_U_message y_U_message ∈ xw_ws := xw_t 732 rfl rfl
set_option maxRecDepth 20000 in
theorem cd_U_message : Cond.code y_U_message b_U_message 5 (some .int) ∈ xw_ws := xw_t 733 rfl rfl
set_option maxRecDepth 20000 in
theorem ml_L_109 : Cond.methodLink "XmppPairLaw" 109 y_U_subscribe ∈ xw_ws := xw_t 734 rfl rfl
set_option maxRecDepth 20000 in
theorem im_U_subscribe : Cond.instanceMethod y_U_subscribe ∈ xw_ws := xw_t 735 rfl rfl
set_option maxRecDepth 20000 in
theorem sl_U_subscribe : Cond.selects "XmppPairModel" y_U_subscribe y_U_subscribe ∈ xw_ws := xw_t 736 rfl rfl
set_option maxRecDepth 20000 in
theorem cd_U_subscribe : Cond.code y_U_subscribe b_U_subscribe 5 (some .int) ∈ xw_ws := xw_t 737 rfl rfl
set_option maxRecDepth 20000 in
theorem ml_U_170 : Cond.methodLink "XmppPairModel" 170 y_U_show ∈ xw_ws := xw_t 738 rfl rfl
set_option maxRecDepth 20000 in
theorem im_U_show : Cond.instanceMethod y_U_show ∈ xw_ws := xw_t 740 rfl rfl
set_option maxRecDepth 20000 in
theorem cd_U_show : Cond.code y_U_show b_U_show 5 none ∈ xw_ws := xw_t 741 rfl rfl
set_option maxRecDepth 20000 in
theorem ml_L_114 : Cond.methodLink "XmppPairLaw" 114 y_U_link ∈ xw_ws := xw_t 742 rfl rfl
set_option maxRecDepth 20000 in
theorem im_U_link : Cond.instanceMethod y_U_link ∈ xw_ws := xw_t 743 rfl rfl
set_option maxRecDepth 20000 in
theorem sl_U_link : Cond.selects "XmppPairModel" y_U_link y_U_link ∈ xw_ws := xw_t 744 rfl rfl
set_option maxRecDepth 20000 in
theorem cd_U_link : Cond.code y_U_link b_U_link 4 (some .int) ∈ xw_ws := xw_t 745 rfl rfl
set_option maxRecDepth 20000 in
theorem ml_L_117 : Cond.methodLink "XmppPairLaw" 117 y_U_take ∈ xw_ws := xw_t 746 rfl rfl
set_option maxRecDepth 20000 in
theorem im_U_take : Cond.instanceMethod y_U_take ∈ xw_ws := xw_t 747 rfl rfl
set_option maxRecDepth 20000 in
theorem sl_U_take : Cond.selects "XmppPairModel" y_U_take y_U_take ∈ xw_ws := xw_t 748 rfl rfl
set_option maxRecDepth 20000 in
theorem cd_U_take : Cond.code y_U_take b_U_take 5 (some .int) ∈ xw_ws := xw_t 749 rfl rfl
set_option maxRecDepth 20000 in
theorem ml_L_120 : Cond.methodLink "XmppPairLaw" 120 y_U_taken ∈ xw_ws := xw_t 750 rfl rfl
set_option maxRecDepth 20000 in
theorem im_U_taken : Cond.instanceMethod y_U_taken ∈ xw_ws := xw_t 751 rfl rfl
set_option maxRecDepth 20000 in
theorem sl_U_taken : Cond.selects "XmppPairModel" y_U_taken y_U_taken ∈ xw_ws := xw_t 752 rfl rfl
set_option maxRecDepth 20000 in
theorem cd_U_taken : Cond.code y_U_taken b_U_taken 2 (some .int) ∈ xw_ws := xw_t 753 rfl rfl
set_option maxRecDepth 20000 in
theorem ml_L_123 : Cond.methodLink "XmppPairLaw" 123 y_U_roster ∈ xw_ws := xw_t 754 rfl rfl
set_option maxRecDepth 20000 in
theorem im_U_roster : Cond.instanceMethod y_U_roster ∈ xw_ws := xw_t 755 rfl rfl
set_option maxRecDepth 20000 in
theorem sl_U_roster : Cond.selects "XmppPairModel" y_U_roster y_U_roster ∈ xw_ws := xw_t 756 rfl rfl
set_option maxRecDepth 20000 in
theorem cd_U_roster : Cond.code y_U_roster b_U_roster 3 (some .int) ∈ xw_ws := xw_t 757 rfl rfl
set_option maxRecDepth 20000 in
theorem ml_L_126 : Cond.methodLink "XmppPairLaw" 126 y_U_connection ∈ xw_ws := xw_t 758 rfl rfl
set_option maxRecDepth 20000 in
theorem im_U_connection : Cond.instanceMethod y_U_connection ∈ xw_ws := xw_t 759 rfl rfl
set_option maxRecDepth 20000 in
theorem sl_U_connection : Cond.selects "XmppPairModel" y_U_connection y_U_connection ∈ xw_ws := xw_t 760 rfl rfl
set_option maxRecDepth 20000 in
theorem cd_U_connection : Cond.code y_U_connection b_U_connection 3 (some .int) ∈ xw_ws := xw_t 761 rfl rfl
set_option maxRecDepth 20000 in
theorem ml_L_129 : Cond.methodLink "XmppPairLaw" 129 y_U_count ∈ xw_ws := xw_t 762 rfl rfl
set_option maxRecDepth 20000 in
theorem im_U_count : Cond.instanceMethod y_U_count ∈ xw_ws := xw_t 763 rfl rfl
set_option maxRecDepth 20000 in
theorem sl_U_count : Cond.selects "XmppPairModel" y_U_count y_U_count ∈ xw_ws := xw_t 764 rfl rfl
set_option maxRecDepth 20000 in
theorem cd_U_count : Cond.code y_U_count b_U_count 4 (some .int) ∈ xw_ws := xw_t 765 rfl rfl
set_option maxRecDepth 20000 in
theorem ar_long : Cond.arrayClass .long ∈ xw_ws := xw_t 766 rfl rfl
theorem sl_X_arrive : Cond.selects "XmppPair" y_X_arrive y_X_arrive ∈ xw_ws := xw_p 0 rfl rfl
theorem sl_X_messageArrives : Cond.selects "XmppPair" y_X_messageArrives y_X_messageArrives ∈ xw_ws := xw_p 1 rfl rfl
theorem sl_X_boundWith : Cond.selects "XmppPair" y_X_boundWith y_X_boundWith ∈ xw_ws := xw_p 2 rfl rfl
theorem sl_X_greatestPriority : Cond.selects "XmppPair" y_X_greatestPriority y_X_greatestPriority ∈ xw_ws := xw_p 3 rfl rfl
theorem sl_X_giveToPriority : Cond.selects "XmppPair" y_X_giveToPriority y_X_giveToPriority ∈ xw_ws := xw_p 4 rfl rfl
theorem sl_X_returnError : Cond.selects "XmppPair" y_X_returnError y_X_returnError ∈ xw_ws := xw_p 5 rfl rfl
theorem sl_X_giveToAvailable : Cond.selects "XmppPair" y_X_giveToAvailable y_X_giveToAvailable ∈ xw_ws := xw_p 6 rfl rfl
theorem sl_X_askArrives : Cond.selects "XmppPair" y_X_askArrives y_X_askArrives ∈ xw_ws := xw_p 7 rfl rfl
theorem sl_X_grantArrives : Cond.selects "XmppPair" y_X_grantArrives y_X_grantArrives ∈ xw_ws := xw_p 8 rfl rfl
theorem sl_X_endingArrives : Cond.selects "XmppPair" y_X_endingArrives y_X_endingArrives ∈ xw_ws := xw_p 9 rfl rfl
theorem sl_X_isRightProof : Cond.selects "XmppPair" y_X_isRightProof y_X_isRightProof ∈ xw_ws := xw_p 11 rfl rfl
theorem sl_X_shut : Cond.selects "XmppPair" y_X_shut y_X_shut ∈ xw_ws := xw_p 12 rfl rfl
theorem sl_X_sendToWatchers : Cond.selects "XmppPair" y_X_sendToWatchers y_X_sendToWatchers ∈ xw_ws := xw_p 13 rfl rfl
theorem sl_X_send : Cond.selects "XmppPair" y_X_send y_X_send ∈ xw_ws := xw_p 14 rfl rfl
theorem sl_X_canReach : Cond.selects "XmppPair" y_X_canReach y_X_canReach ∈ xw_ws := xw_p 15 rfl rfl
theorem sl_X_showOthers : Cond.selects "XmppPair" y_X_showOthers y_X_showOthers ∈ xw_ws := xw_p 16 rfl rfl
theorem sl_X_showConnectionsOf : Cond.selects "XmppPair" y_X_showConnectionsOf y_X_showConnectionsOf ∈ xw_ws := xw_p 17 rfl rfl
theorem sl_X_handOverKept : Cond.selects "XmppPair" y_X_handOverKept y_X_handOverKept ∈ xw_ws := xw_p 18 rfl rfl
theorem sl_X_sendPresences : Cond.selects "XmppPair" y_X_sendPresences y_X_sendPresences ∈ xw_ws := xw_p 19 rfl rfl
theorem sl_X_keptForAll : Cond.selects "XmppPair" y_X_keptForAll y_X_keptForAll ∈ xw_ws := xw_p 20 rfl rfl
theorem sl_X_lostByAll : Cond.selects "XmppPair" y_X_lostByAll y_X_lostByAll ∈ xw_ws := xw_p 21 rfl rfl
theorem sl_U_raise : Cond.selects "XmppPairModel" y_U_raise y_U_raise ∈ xw_ws := xw_p 22 rfl rfl
theorem sl_U_shut : Cond.selects "XmppPairModel" y_U_shut y_U_shut ∈ xw_ws := xw_p 23 rfl rfl
theorem sl_U_tell : Cond.selects "XmppPairModel" y_U_tell y_U_tell ∈ xw_ws := xw_p 24 rfl rfl
theorem sl_U_marked : Cond.selects "XmppPairModel" y_U_marked y_U_marked ∈ xw_ws := xw_p 25 rfl rfl
theorem sl_U_send : Cond.selects "XmppPairModel" y_U_send y_U_send ∈ xw_ws := xw_p 26 rfl rfl
theorem sl_U_hold : Cond.selects "XmppPairModel" y_U_hold y_U_hold ∈ xw_ws := xw_p 27 rfl rfl
theorem sl_U_putAll : Cond.selects "XmppPairModel" y_U_putAll y_U_putAll ∈ xw_ws := xw_p 28 rfl rfl
theorem sl_U_put : Cond.selects "XmppPairModel" y_U_put y_U_put ∈ xw_ws := xw_p 29 rfl rfl
theorem sl_U_arrive : Cond.selects "XmppPairModel" y_U_arrive y_U_arrive ∈ xw_ws := xw_p 30 rfl rfl
theorem sl_U_route : Cond.selects "XmppPairModel" y_U_route y_U_route ∈ xw_ws := xw_p 31 rfl rfl
theorem sl_U_mark : Cond.selects "XmppPairModel" y_U_mark y_U_mark ∈ xw_ws := xw_p 32 rfl rfl
theorem sl_U_unmark : Cond.selects "XmppPairModel" y_U_unmark y_U_unmark ∈ xw_ws := xw_p 33 rfl rfl
theorem sl_U_end : Cond.selects "XmppPairModel" y_U_end y_U_end ∈ xw_ws := xw_p 34 rfl rfl
theorem sl_U_welcome : Cond.selects "XmppPairModel" y_U_welcome y_U_welcome ∈ xw_ws := xw_p 35 rfl rfl
theorem sl_U_show : Cond.selects "XmppPairModel" y_U_show y_U_show ∈ xw_ws := xw_p 36 rfl rfl
set_option maxRecDepth 20000 in
theorem xw_in_X : ∀ w ∈ u_ws R_X F_X 6, w ∈ xw_ws := by
  intro w hw
  obtain ⟨k, hk, rfl⟩ := List.mem_map.mp hw
  have hk := List.mem_range.mp hk
  match k, hk with
  | 0, _ => exact xw_t 144 rfl rfl
  | 1, _ => exact xw_t 146 rfl rfl
  | 2, _ => exact xw_t 148 rfl rfl
  | 3, _ => exact xw_t 150 rfl rfl
  | 4, _ => exact xw_t 152 rfl rfl
  | 5, _ => exact xw_t 154 rfl rfl
  | k + 6, hk => exact absurd hk (by omega)
set_option maxRecDepth 20000 in
theorem xw_in_A : ∀ w ∈ u_ws R_A F_A 4, w ∈ xw_ws := by
  intro w hw
  obtain ⟨k, hk, rfl⟩ := List.mem_map.mp hw
  have hk := List.mem_range.mp hk
  match k, hk with
  | 0, _ => exact xw_t 89 rfl rfl
  | 1, _ => exact xw_t 91 rfl rfl
  | 2, _ => exact xw_t 93 rfl rfl
  | 3, _ => exact xw_t 95 rfl rfl
  | k + 4, hk => exact absurd hk (by omega)
set_option maxRecDepth 20000 in
theorem xw_in_C : ∀ w ∈ u_ws R_C F_C 7, w ∈ xw_ws := by
  intro w hw
  obtain ⟨k, hk, rfl⟩ := List.mem_map.mp hw
  have hk := List.mem_range.mp hk
  match k, hk with
  | 0, _ => exact xw_t 121 rfl rfl
  | 1, _ => exact xw_t 123 rfl rfl
  | 2, _ => exact xw_t 125 rfl rfl
  | 3, _ => exact xw_t 127 rfl rfl
  | 4, _ => exact xw_t 129 rfl rfl
  | 5, _ => exact xw_t 131 rfl rfl
  | 6, _ => exact xw_t 133 rfl rfl
  | k + 7, hk => exact absurd hk (by omega)
set_option maxRecDepth 20000 in
theorem xw_in_Q : ∀ w ∈ u_ws R_Q F_Q 3, w ∈ xw_ws := by
  intro w hw
  obtain ⟨k, hk, rfl⟩ := List.mem_map.mp hw
  have hk := List.mem_range.mp hk
  match k, hk with
  | 0, _ => exact xw_t 73 rfl rfl
  | 1, _ => exact xw_t 75 rfl rfl
  | 2, _ => exact xw_t 77 rfl rfl
  | k + 3, hk => exact absurd hk (by omega)
set_option maxRecDepth 20000 in
theorem xw_in_Z : ∀ w ∈ u_ws R_Z F_Z 6, w ∈ xw_ws := by
  intro w hw
  obtain ⟨k, hk, rfl⟩ := List.mem_map.mp hw
  have hk := List.mem_range.mp hk
  match k, hk with
  | 0, _ => exact xw_t 40 rfl rfl
  | 1, _ => exact xw_t 42 rfl rfl
  | 2, _ => exact xw_t 44 rfl rfl
  | 3, _ => exact xw_t 46 rfl rfl
  | 4, _ => exact xw_t 48 rfl rfl
  | 5, _ => exact xw_t 50 rfl rfl
  | k + 6, hk => exact absurd hk (by omega)
set_option maxRecDepth 20000 in
theorem xw_in_U : ∀ w ∈ u_ws R_U F_U 34, w ∈ xw_ws := by
  intro w hw
  obtain ⟨k, hk, rfl⟩ := List.mem_map.mp hw
  have hk := List.mem_range.mp hk
  match k, hk with
  | 0, _ => exact xw_t 556 rfl rfl
  | 1, _ => exact xw_t 558 rfl rfl
  | 2, _ => exact xw_t 560 rfl rfl
  | 3, _ => exact xw_t 562 rfl rfl
  | 4, _ => exact xw_t 564 rfl rfl
  | 5, _ => exact xw_t 566 rfl rfl
  | 6, _ => exact xw_t 568 rfl rfl
  | 7, _ => exact xw_t 570 rfl rfl
  | 8, _ => exact xw_t 572 rfl rfl
  | 9, _ => exact xw_t 574 rfl rfl
  | 10, _ => exact xw_t 576 rfl rfl
  | 11, _ => exact xw_t 578 rfl rfl
  | 12, _ => exact xw_t 580 rfl rfl
  | 13, _ => exact xw_t 582 rfl rfl
  | 14, _ => exact xw_t 584 rfl rfl
  | 15, _ => exact xw_t 586 rfl rfl
  | 16, _ => exact xw_t 588 rfl rfl
  | 17, _ => exact xw_t 590 rfl rfl
  | 18, _ => exact xw_t 592 rfl rfl
  | 19, _ => exact xw_t 594 rfl rfl
  | 20, _ => exact xw_t 596 rfl rfl
  | 21, _ => exact xw_t 598 rfl rfl
  | 22, _ => exact xw_t 600 rfl rfl
  | 23, _ => exact xw_t 602 rfl rfl
  | 24, _ => exact xw_t 604 rfl rfl
  | 25, _ => exact xw_t 606 rfl rfl
  | 26, _ => exact xw_t 608 rfl rfl
  | 27, _ => exact xw_t 610 rfl rfl
  | 28, _ => exact xw_t 612 rfl rfl
  | 29, _ => exact xw_t 614 rfl rfl
  | 30, _ => exact xw_t 616 rfl rfl
  | 31, _ => exact xw_t 618 rfl rfl
  | 32, _ => exact xw_t 620 rfl rfl
  | 33, _ => exact xw_t 622 rfl rfl
  | k + 34, hk => exact absurd hk (by omega)
theorem gd_X_X_isAccount : GoodIn xw_ws (wsS "XmppPair" 51 y_X_isAccount (Cond.code y_X_isAccount b_X_isAccount 1 (some .boolean) :: xw_ws)) := xw_goodS cd_X_isAccount ml_X_51 sm_X_isAccount ii_X
theorem hd_X_isAccount : y_X_isAccount.cls = "XmppPair" ∧ y_X_isAccount.cls ≠ "java/lang/invoke/MethodHandle" ∧ y_X_isAccount.cls ≠ "java/lang/invoke/VarHandle" ∧ (parseMethodDescriptor y_X_isAccount.desc).map (fun d => d.parameters.length) = some 1 := by decide +kernel
theorem gd_X_X_checkArgument : GoodIn xw_ws (wsS "XmppPair" 55 y_X_checkArgument (Cond.code y_X_checkArgument b_X_checkArgument 1 none :: xw_ws)) := xw_goodS cd_X_checkArgument ml_X_55 sm_X_checkArgument ii_X
theorem hd_X_checkArgument : y_X_checkArgument.cls = "XmppPair" ∧ y_X_checkArgument.cls ≠ "java/lang/invoke/MethodHandle" ∧ y_X_checkArgument.cls ≠ "java/lang/invoke/VarHandle" ∧ (parseMethodDescriptor y_X_checkArgument.desc).map (fun d => d.parameters.length) = some 1 := by decide +kernel
theorem gd_X_X_checkState : GoodIn xw_ws (wsS "XmppPair" 62 y_X_checkState (Cond.code y_X_checkState b_X_checkState 1 none :: xw_ws)) := xw_goodS cd_X_checkState ml_X_62 sm_X_checkState ii_X
theorem hd_X_checkState : y_X_checkState.cls = "XmppPair" ∧ y_X_checkState.cls ≠ "java/lang/invoke/MethodHandle" ∧ y_X_checkState.cls ≠ "java/lang/invoke/VarHandle" ∧ (parseMethodDescriptor y_X_checkState.desc).map (fun d => d.parameters.length) = some 1 := by decide +kernel
theorem gd_X_X_isConnection : GoodIn xw_ws (wsS "XmppPair" 68 y_X_isConnection (Cond.code y_X_isConnection b_X_isConnection 1 (some .boolean) :: xw_ws)) := xw_goodS cd_X_isConnection ml_X_68 sm_X_isConnection ii_X
theorem hd_X_isConnection : y_X_isConnection.cls = "XmppPair" ∧ y_X_isConnection.cls ≠ "java/lang/invoke/MethodHandle" ∧ y_X_isConnection.cls ≠ "java/lang/invoke/VarHandle" ∧ (parseMethodDescriptor y_X_isConnection.desc).map (fun d => d.parameters.length) = some 1 := by decide +kernel
theorem gd_X_Q_clear : GoodIn xw_ws (wsV "XmppPair" 77 "XmppPair$StanzaQueue" y_Q_clear (Cond.code y_Q_clear b_Q_clear 1 none :: xw_ws)) := xw_goodV cd_Q_clear ml_X_77 im_Q_clear sl_Q_clear ii_Q
theorem hd_Q_clear : y_Q_clear.cls = "XmppPair$StanzaQueue" ∧ y_Q_clear.cls ≠ "java/lang/invoke/MethodHandle" ∧ y_Q_clear.cls ≠ "java/lang/invoke/VarHandle" ∧ (parseMethodDescriptor y_Q_clear.desc).map (fun d => d.parameters.length) = some 0 := by decide +kernel
theorem gd_X_X_isRightProof : GoodIn xw_ws (wsV "XmppPair" 86 "XmppPair" y_X_isRightProof (Cond.code y_X_isRightProof b_X_isRightProof 4 (some .boolean) :: xw_ws)) := xw_goodV cd_X_isRightProof ml_X_86 im_X_isRightProof sl_X_isRightProof ii_X
theorem hd_X_isRightProof : y_X_isRightProof.cls = "XmppPair" ∧ y_X_isRightProof.cls ≠ "java/lang/invoke/MethodHandle" ∧ y_X_isRightProof.cls ≠ "java/lang/invoke/VarHandle" ∧ (parseMethodDescriptor y_X_isRightProof.desc).map (fun d => d.parameters.length) = some 2 := by decide +kernel
theorem gd_X_X_boundWith : GoodIn xw_ws (wsV "XmppPair" 93 "XmppPair" y_X_boundWith (Cond.code y_X_boundWith b_X_boundWith 7 (some (.object "XmppPair$Connection")) :: xw_ws)) := xw_goodV cd_X_boundWith ml_X_93 im_X_boundWith sl_X_boundWith ii_X
theorem hd_X_boundWith : y_X_boundWith.cls = "XmppPair" ∧ y_X_boundWith.cls ≠ "java/lang/invoke/MethodHandle" ∧ y_X_boundWith.cls ≠ "java/lang/invoke/VarHandle" ∧ (parseMethodDescriptor y_X_boundWith.desc).map (fun d => d.parameters.length) = some 2 := by decide +kernel
theorem gd_X_X_shut : GoodIn xw_ws (wsV "XmppPair" 97 "XmppPair" y_X_shut (Cond.code y_X_shut b_X_shut 2 none :: xw_ws)) := xw_goodV cd_X_shut ml_X_97 im_X_shut sl_X_shut ii_X
theorem hd_X_shut : y_X_shut.cls = "XmppPair" ∧ y_X_shut.cls ≠ "java/lang/invoke/MethodHandle" ∧ y_X_shut.cls ≠ "java/lang/invoke/VarHandle" ∧ (parseMethodDescriptor y_X_shut.desc).map (fun d => d.parameters.length) = some 1 := by decide +kernel
theorem gd_X_X_sendToWatchers : GoodIn xw_ws (wsV "XmppPair" 110 "XmppPair" y_X_sendToWatchers (Cond.code y_X_sendToWatchers b_X_sendToWatchers 5 none :: xw_ws)) := xw_goodV cd_X_sendToWatchers ml_X_110 im_X_sendToWatchers sl_X_sendToWatchers ii_X
theorem hd_X_sendToWatchers : y_X_sendToWatchers.cls = "XmppPair" ∧ y_X_sendToWatchers.cls ≠ "java/lang/invoke/MethodHandle" ∧ y_X_sendToWatchers.cls ≠ "java/lang/invoke/VarHandle" ∧ (parseMethodDescriptor y_X_sendToWatchers.desc).map (fun d => d.parameters.length) = some 2 := by decide +kernel
theorem gd_X_X_showOthers : GoodIn xw_ws (wsV "XmppPair" 114 "XmppPair" y_X_showOthers (Cond.code y_X_showOthers b_X_showOthers 4 none :: xw_ws)) := xw_goodV cd_X_showOthers ml_X_114 im_X_showOthers sl_X_showOthers ii_X
theorem hd_X_showOthers : y_X_showOthers.cls = "XmppPair" ∧ y_X_showOthers.cls ≠ "java/lang/invoke/MethodHandle" ∧ y_X_showOthers.cls ≠ "java/lang/invoke/VarHandle" ∧ (parseMethodDescriptor y_X_showOthers.desc).map (fun d => d.parameters.length) = some 1 := by decide +kernel
theorem gd_X_X_handOverKept : GoodIn xw_ws (wsV "XmppPair" 117 "XmppPair" y_X_handOverKept (Cond.code y_X_handOverKept b_X_handOverKept 5 none :: xw_ws)) := xw_goodV cd_X_handOverKept ml_X_117 im_X_handOverKept sl_X_handOverKept ii_X
theorem hd_X_handOverKept : y_X_handOverKept.cls = "XmppPair" ∧ y_X_handOverKept.cls ≠ "java/lang/invoke/MethodHandle" ∧ y_X_handOverKept.cls ≠ "java/lang/invoke/VarHandle" ∧ (parseMethodDescriptor y_X_handOverKept.desc).map (fun d => d.parameters.length) = some 1 := by decide +kernel
theorem gd_X_X_send : GoodIn xw_ws (wsV "XmppPair" 123 "XmppPair" y_X_send (Cond.code y_X_send b_X_send 2 none :: xw_ws)) := xw_goodV cd_X_send ml_X_123 im_X_send sl_X_send ii_X
theorem hd_X_send : y_X_send.cls = "XmppPair" ∧ y_X_send.cls ≠ "java/lang/invoke/MethodHandle" ∧ y_X_send.cls ≠ "java/lang/invoke/VarHandle" ∧ (parseMethodDescriptor y_X_send.desc).map (fun d => d.parameters.length) = some 1 := by decide +kernel
theorem gd_X_A_hasAny : GoodIn xw_ws (wsV "XmppPair" 126 "XmppPair$Account" y_A_hasAny (Cond.code y_A_hasAny b_A_hasAny 3 (some .boolean) :: xw_ws)) := xw_goodV cd_A_hasAny ml_X_126 im_A_hasAny sl_A_hasAny ii_A
theorem hd_A_hasAny : y_A_hasAny.cls = "XmppPair$Account" ∧ y_A_hasAny.cls ≠ "java/lang/invoke/MethodHandle" ∧ y_A_hasAny.cls ≠ "java/lang/invoke/VarHandle" ∧ (parseMethodDescriptor y_A_hasAny.desc).map (fun d => d.parameters.length) = some 2 := by decide +kernel
theorem gd_X_X_sendPresences : GoodIn xw_ws (wsV "XmppPair" 130 "XmppPair" y_X_sendPresences (Cond.code y_X_sendPresences b_X_sendPresences 8 none :: xw_ws)) := xw_goodV cd_X_sendPresences ml_X_130 im_X_sendPresences sl_X_sendPresences ii_X
theorem hd_X_sendPresences : y_X_sendPresences.cls = "XmppPair" ∧ y_X_sendPresences.cls ≠ "java/lang/invoke/MethodHandle" ∧ y_X_sendPresences.cls ≠ "java/lang/invoke/VarHandle" ∧ (parseMethodDescriptor y_X_sendPresences.desc).map (fun d => d.parameters.length) = some 3 := by decide +kernel
theorem gd_X_X_changeOwnMarks : GoodIn xw_ws (wsS "XmppPair" 134 y_X_changeOwnMarks (Cond.code y_X_changeOwnMarks b_X_changeOwnMarks 3 none :: xw_ws)) := xw_goodS cd_X_changeOwnMarks ml_X_134 sm_X_changeOwnMarks ii_X
theorem hd_X_changeOwnMarks : y_X_changeOwnMarks.cls = "XmppPair" ∧ y_X_changeOwnMarks.cls ≠ "java/lang/invoke/MethodHandle" ∧ y_X_changeOwnMarks.cls ≠ "java/lang/invoke/VarHandle" ∧ (parseMethodDescriptor y_X_changeOwnMarks.desc).map (fun d => d.parameters.length) = some 3 := by decide +kernel
theorem gd_X_Q_removeFirst : GoodIn xw_ws (wsV "XmppPair" 138 "XmppPair$StanzaQueue" y_Q_removeFirst (Cond.code y_Q_removeFirst b_Q_removeFirst 3 (some (.object "XmppPair$Stanza")) :: xw_ws)) := xw_goodV cd_Q_removeFirst ml_X_138 im_Q_removeFirst sl_Q_removeFirst ii_Q
theorem hd_Q_removeFirst : y_Q_removeFirst.cls = "XmppPair$StanzaQueue" ∧ y_Q_removeFirst.cls ≠ "java/lang/invoke/MethodHandle" ∧ y_Q_removeFirst.cls ≠ "java/lang/invoke/VarHandle" ∧ (parseMethodDescriptor y_Q_removeFirst.desc).map (fun d => d.parameters.length) = some 0 := by decide +kernel
theorem gd_X_X_arrive : GoodIn xw_ws (wsV "XmppPair" 142 "XmppPair" y_X_arrive (Cond.code y_X_arrive b_X_arrive 2 none :: xw_ws)) := xw_goodV cd_X_arrive ml_X_142 im_X_arrive sl_X_arrive ii_X
theorem hd_X_arrive : y_X_arrive.cls = "XmppPair" ∧ y_X_arrive.cls ≠ "java/lang/invoke/MethodHandle" ∧ y_X_arrive.cls ≠ "java/lang/invoke/VarHandle" ∧ (parseMethodDescriptor y_X_arrive.desc).map (fun d => d.parameters.length) = some 1 := by decide +kernel
theorem gd_X_X_keptForAll : GoodIn xw_ws (wsV "XmppPair" 165 "XmppPair" y_X_keptForAll (Cond.code y_X_keptForAll b_X_keptForAll 6 (some .int) :: xw_ws)) := xw_goodV cd_X_keptForAll ml_X_165 im_X_keptForAll sl_X_keptForAll ii_X
theorem hd_X_keptForAll : y_X_keptForAll.cls = "XmppPair" ∧ y_X_keptForAll.cls ≠ "java/lang/invoke/MethodHandle" ∧ y_X_keptForAll.cls ≠ "java/lang/invoke/VarHandle" ∧ (parseMethodDescriptor y_X_keptForAll.desc).map (fun d => d.parameters.length) = some 0 := by decide +kernel
theorem gd_X_X_lostByAll : GoodIn xw_ws (wsV "XmppPair" 169 "XmppPair" y_X_lostByAll (Cond.code y_X_lostByAll b_X_lostByAll 6 (some .int) :: xw_ws)) := xw_goodV cd_X_lostByAll ml_X_169 im_X_lostByAll sl_X_lostByAll ii_X
theorem hd_X_lostByAll : y_X_lostByAll.cls = "XmppPair" ∧ y_X_lostByAll.cls ≠ "java/lang/invoke/MethodHandle" ∧ y_X_lostByAll.cls ≠ "java/lang/invoke/VarHandle" ∧ (parseMethodDescriptor y_X_lostByAll.desc).map (fun d => d.parameters.length) = some 0 := by decide +kernel
theorem gd_X_X_onOneServer : GoodIn xw_ws (wsS "XmppPair" 178 y_X_onOneServer (Cond.code y_X_onOneServer b_X_onOneServer 2 (some .boolean) :: xw_ws)) := xw_goodS cd_X_onOneServer ml_X_178 sm_X_onOneServer ii_X
theorem hd_X_onOneServer : y_X_onOneServer.cls = "XmppPair" ∧ y_X_onOneServer.cls ≠ "java/lang/invoke/MethodHandle" ∧ y_X_onOneServer.cls ≠ "java/lang/invoke/VarHandle" ∧ (parseMethodDescriptor y_X_onOneServer.desc).map (fun d => d.parameters.length) = some 2 := by decide +kernel
theorem gd_X_X_presenceOf : GoodIn xw_ws (wsS "XmppPair" 181 y_X_presenceOf (Cond.code y_X_presenceOf b_X_presenceOf 4 (some (.object "XmppPair$Stanza")) :: xw_ws)) := xw_goodS cd_X_presenceOf ml_X_181 sm_X_presenceOf ii_X
theorem hd_X_presenceOf : y_X_presenceOf.cls = "XmppPair" ∧ y_X_presenceOf.cls ≠ "java/lang/invoke/MethodHandle" ∧ y_X_presenceOf.cls ≠ "java/lang/invoke/VarHandle" ∧ (parseMethodDescriptor y_X_presenceOf.desc).map (fun d => d.parameters.length) = some 3 := by decide +kernel
theorem gd_X_C_isAvailableFor : GoodIn xw_ws (wsV "XmppPair" 185 "XmppPair$Connection" y_C_isAvailableFor (Cond.code y_C_isAvailableFor b_C_isAvailableFor 2 (some .boolean) :: xw_ws)) := xw_goodV cd_C_isAvailableFor ml_X_185 im_C_isAvailableFor sl_C_isAvailableFor ii_C
theorem hd_C_isAvailableFor : y_C_isAvailableFor.cls = "XmppPair$Connection" ∧ y_C_isAvailableFor.cls ≠ "java/lang/invoke/MethodHandle" ∧ y_C_isAvailableFor.cls ≠ "java/lang/invoke/VarHandle" ∧ (parseMethodDescriptor y_C_isAvailableFor.desc).map (fun d => d.parameters.length) = some 1 := by decide +kernel
theorem gd_X_X_canReach : GoodIn xw_ws (wsV "XmppPair" 188 "XmppPair" y_X_canReach (Cond.code y_X_canReach b_X_canReach 3 (some .boolean) :: xw_ws)) := xw_goodV cd_X_canReach ml_X_188 im_X_canReach sl_X_canReach ii_X
theorem hd_X_canReach : y_X_canReach.cls = "XmppPair" ∧ y_X_canReach.cls ≠ "java/lang/invoke/MethodHandle" ∧ y_X_canReach.cls ≠ "java/lang/invoke/VarHandle" ∧ (parseMethodDescriptor y_X_canReach.desc).map (fun d => d.parameters.length) = some 2 := by decide +kernel
theorem gd_X_X_showConnectionsOf : GoodIn xw_ws (wsV "XmppPair" 191 "XmppPair" y_X_showConnectionsOf (Cond.code y_X_showConnectionsOf b_X_showConnectionsOf 7 none :: xw_ws)) := xw_goodV cd_X_showConnectionsOf ml_X_191 im_X_showConnectionsOf sl_X_showConnectionsOf ii_X
theorem hd_X_showConnectionsOf : y_X_showConnectionsOf.cls = "XmppPair" ∧ y_X_showConnectionsOf.cls ≠ "java/lang/invoke/MethodHandle" ∧ y_X_showConnectionsOf.cls ≠ "java/lang/invoke/VarHandle" ∧ (parseMethodDescriptor y_X_showConnectionsOf.desc).map (fun d => d.parameters.length) = some 2 := by decide +kernel
theorem gd_X_Q_add : GoodIn xw_ws (wsV "XmppPair" 195 "XmppPair$StanzaQueue" y_Q_add (Cond.code y_Q_add b_Q_add 2 none :: xw_ws)) := xw_goodV cd_Q_add ml_X_195 im_Q_add sl_Q_add ii_Q
theorem hd_Q_add : y_Q_add.cls = "XmppPair$StanzaQueue" ∧ y_Q_add.cls ≠ "java/lang/invoke/MethodHandle" ∧ y_Q_add.cls ≠ "java/lang/invoke/VarHandle" ∧ (parseMethodDescriptor y_Q_add.desc).map (fun d => d.parameters.length) = some 1 := by decide +kernel
theorem gd_X_A_addMark : GoodIn xw_ws (wsV "XmppPair" 198 "XmppPair$Account" y_A_addMark (Cond.code y_A_addMark b_A_addMark 3 none :: xw_ws)) := xw_goodV cd_A_addMark ml_X_198 im_A_addMark sl_A_addMark ii_A
theorem hd_A_addMark : y_A_addMark.cls = "XmppPair$Account" ∧ y_A_addMark.cls ≠ "java/lang/invoke/MethodHandle" ∧ y_A_addMark.cls ≠ "java/lang/invoke/VarHandle" ∧ (parseMethodDescriptor y_A_addMark.desc).map (fun d => d.parameters.length) = some 2 := by decide +kernel
theorem gd_X_A_dropMarks : GoodIn xw_ws (wsV "XmppPair" 202 "XmppPair$Account" y_A_dropMarks (Cond.code y_A_dropMarks b_A_dropMarks 3 none :: xw_ws)) := xw_goodV cd_A_dropMarks ml_X_202 im_A_dropMarks sl_A_dropMarks ii_A
theorem hd_A_dropMarks : y_A_dropMarks.cls = "XmppPair$Account" ∧ y_A_dropMarks.cls ≠ "java/lang/invoke/MethodHandle" ∧ y_A_dropMarks.cls ≠ "java/lang/invoke/VarHandle" ∧ (parseMethodDescriptor y_A_dropMarks.desc).map (fun d => d.parameters.length) = some 2 := by decide +kernel
theorem gd_X_Q_isFull : GoodIn xw_ws (wsV "XmppPair" 208 "XmppPair$StanzaQueue" y_Q_isFull (Cond.code y_Q_isFull b_Q_isFull 1 (some .boolean) :: xw_ws)) := xw_goodV cd_Q_isFull ml_X_208 im_Q_isFull sl_Q_isFull ii_Q
theorem hd_Q_isFull : y_Q_isFull.cls = "XmppPair$StanzaQueue" ∧ y_Q_isFull.cls ≠ "java/lang/invoke/MethodHandle" ∧ y_Q_isFull.cls ≠ "java/lang/invoke/VarHandle" ∧ (parseMethodDescriptor y_Q_isFull.desc).map (fun d => d.parameters.length) = some 0 := by decide +kernel
theorem gd_X_X_returnError : GoodIn xw_ws (wsV "XmppPair" 212 "XmppPair" y_X_returnError (Cond.code y_X_returnError b_X_returnError 2 none :: xw_ws)) := xw_goodV cd_X_returnError ml_X_212 im_X_returnError sl_X_returnError ii_X
theorem hd_X_returnError : y_X_returnError.cls = "XmppPair" ∧ y_X_returnError.cls ≠ "java/lang/invoke/MethodHandle" ∧ y_X_returnError.cls ≠ "java/lang/invoke/VarHandle" ∧ (parseMethodDescriptor y_X_returnError.desc).map (fun d => d.parameters.length) = some 1 := by decide +kernel
theorem gd_X_X_giveToAvailable : GoodIn xw_ws (wsV "XmppPair" 215 "XmppPair" y_X_giveToAvailable (Cond.code y_X_giveToAvailable b_X_giveToAvailable 6 none :: xw_ws)) := xw_goodV cd_X_giveToAvailable ml_X_215 im_X_giveToAvailable sl_X_giveToAvailable ii_X
theorem hd_X_giveToAvailable : y_X_giveToAvailable.cls = "XmppPair" ∧ y_X_giveToAvailable.cls ≠ "java/lang/invoke/MethodHandle" ∧ y_X_giveToAvailable.cls ≠ "java/lang/invoke/VarHandle" ∧ (parseMethodDescriptor y_X_giveToAvailable.desc).map (fun d => d.parameters.length) = some 1 := by decide +kernel
theorem gd_X_X_messageArrives : GoodIn xw_ws (wsV "XmppPair" 218 "XmppPair" y_X_messageArrives (Cond.code y_X_messageArrives b_X_messageArrives 5 none :: xw_ws)) := xw_goodV cd_X_messageArrives ml_X_218 im_X_messageArrives sl_X_messageArrives ii_X
theorem hd_X_messageArrives : y_X_messageArrives.cls = "XmppPair" ∧ y_X_messageArrives.cls ≠ "java/lang/invoke/MethodHandle" ∧ y_X_messageArrives.cls ≠ "java/lang/invoke/VarHandle" ∧ (parseMethodDescriptor y_X_messageArrives.desc).map (fun d => d.parameters.length) = some 1 := by decide +kernel
theorem gd_X_X_askArrives : GoodIn xw_ws (wsV "XmppPair" 221 "XmppPair" y_X_askArrives (Cond.code y_X_askArrives b_X_askArrives 3 none :: xw_ws)) := xw_goodV cd_X_askArrives ml_X_221 im_X_askArrives sl_X_askArrives ii_X
theorem hd_X_askArrives : y_X_askArrives.cls = "XmppPair" ∧ y_X_askArrives.cls ≠ "java/lang/invoke/MethodHandle" ∧ y_X_askArrives.cls ≠ "java/lang/invoke/VarHandle" ∧ (parseMethodDescriptor y_X_askArrives.desc).map (fun d => d.parameters.length) = some 1 := by decide +kernel
theorem gd_X_X_grantArrives : GoodIn xw_ws (wsV "XmppPair" 224 "XmppPair" y_X_grantArrives (Cond.code y_X_grantArrives b_X_grantArrives 3 none :: xw_ws)) := xw_goodV cd_X_grantArrives ml_X_224 im_X_grantArrives sl_X_grantArrives ii_X
theorem hd_X_grantArrives : y_X_grantArrives.cls = "XmppPair" ∧ y_X_grantArrives.cls ≠ "java/lang/invoke/MethodHandle" ∧ y_X_grantArrives.cls ≠ "java/lang/invoke/VarHandle" ∧ (parseMethodDescriptor y_X_grantArrives.desc).map (fun d => d.parameters.length) = some 1 := by decide +kernel
theorem gd_X_X_endingArrives : GoodIn xw_ws (wsV "XmppPair" 227 "XmppPair" y_X_endingArrives (Cond.code y_X_endingArrives b_X_endingArrives 4 none :: xw_ws)) := xw_goodV cd_X_endingArrives ml_X_227 im_X_endingArrives sl_X_endingArrives ii_X
theorem hd_X_endingArrives : y_X_endingArrives.cls = "XmppPair" ∧ y_X_endingArrives.cls ≠ "java/lang/invoke/MethodHandle" ∧ y_X_endingArrives.cls ≠ "java/lang/invoke/VarHandle" ∧ (parseMethodDescriptor y_X_endingArrives.desc).map (fun d => d.parameters.length) = some 2 := by decide +kernel
theorem gd_X_X_greatestPriority : GoodIn xw_ws (wsV "XmppPair" 234 "XmppPair" y_X_greatestPriority (Cond.code y_X_greatestPriority b_X_greatestPriority 7 (some .int) :: xw_ws)) := xw_goodV cd_X_greatestPriority ml_X_234 im_X_greatestPriority sl_X_greatestPriority ii_X
theorem hd_X_greatestPriority : y_X_greatestPriority.cls = "XmppPair" ∧ y_X_greatestPriority.cls ≠ "java/lang/invoke/MethodHandle" ∧ y_X_greatestPriority.cls ≠ "java/lang/invoke/VarHandle" ∧ (parseMethodDescriptor y_X_greatestPriority.desc).map (fun d => d.parameters.length) = some 1 := by decide +kernel
theorem gd_X_X_giveToPriority : GoodIn xw_ws (wsV "XmppPair" 238 "XmppPair" y_X_giveToPriority (Cond.code y_X_giveToPriority b_X_giveToPriority 7 none :: xw_ws)) := xw_goodV cd_X_giveToPriority ml_X_238 im_X_giveToPriority sl_X_giveToPriority ii_X
theorem hd_X_giveToPriority : y_X_giveToPriority.cls = "XmppPair" ∧ y_X_giveToPriority.cls ≠ "java/lang/invoke/MethodHandle" ∧ y_X_giveToPriority.cls ≠ "java/lang/invoke/VarHandle" ∧ (parseMethodDescriptor y_X_giveToPriority.desc).map (fun d => d.parameters.length) = some 2 := by decide +kernel
theorem gd_U_U_in : GoodIn xw_ws (wsS "XmppPairModel" 91 y_U_in (Cond.code y_U_in b_U_in 3 (some .boolean) :: xw_ws)) := xw_goodS cd_U_in ml_U_91 sm_U_in ii_U
theorem hd_U_in : y_U_in.cls = "XmppPairModel" ∧ y_U_in.cls ≠ "java/lang/invoke/MethodHandle" ∧ y_U_in.cls ≠ "java/lang/invoke/VarHandle" ∧ (parseMethodDescriptor y_U_in.desc).map (fun d => d.parameters.length) = some 3 := by decide +kernel
theorem gd_U_U_put : GoodIn xw_ws (wsV "XmppPairModel" 98 "XmppPairModel" y_U_put (Cond.code y_U_put b_U_put 7 none :: xw_ws)) := xw_goodV cd_U_put ml_U_98 im_U_put sl_U_put ii_U
theorem hd_U_put : y_U_put.cls = "XmppPairModel" ∧ y_U_put.cls ≠ "java/lang/invoke/MethodHandle" ∧ y_U_put.cls ≠ "java/lang/invoke/VarHandle" ∧ (parseMethodDescriptor y_U_put.desc).map (fun d => d.parameters.length) = some 5 := by decide +kernel
theorem gd_U_U_marked : GoodIn xw_ws (wsV "XmppPairModel" 102 "XmppPairModel" y_U_marked (Cond.code y_U_marked b_U_marked 4 (some .boolean) :: xw_ws)) := xw_goodV cd_U_marked ml_U_102 im_U_marked sl_U_marked ii_U
theorem hd_U_marked : y_U_marked.cls = "XmppPairModel" ∧ y_U_marked.cls ≠ "java/lang/invoke/MethodHandle" ∧ y_U_marked.cls ≠ "java/lang/invoke/VarHandle" ∧ (parseMethodDescriptor y_U_marked.desc).map (fun d => d.parameters.length) = some 3 := by decide +kernel
theorem gd_U_U_unmark : GoodIn xw_ws (wsV "XmppPairModel" 105 "XmppPairModel" y_U_unmark (Cond.code y_U_unmark b_U_unmark 4 none :: xw_ws)) := xw_goodV cd_U_unmark ml_U_105 im_U_unmark sl_U_unmark ii_U
theorem hd_U_unmark : y_U_unmark.cls = "XmppPairModel" ∧ y_U_unmark.cls ≠ "java/lang/invoke/MethodHandle" ∧ y_U_unmark.cls ≠ "java/lang/invoke/VarHandle" ∧ (parseMethodDescriptor y_U_unmark.desc).map (fun d => d.parameters.length) = some 3 := by decide +kernel
theorem gd_U_U_putAll : GoodIn xw_ws (wsV "XmppPairModel" 109 "XmppPairModel" y_U_putAll (Cond.code y_U_putAll b_U_putAll 7 none :: xw_ws)) := xw_goodV cd_U_putAll ml_U_109 im_U_putAll sl_U_putAll ii_U
theorem hd_U_putAll : y_U_putAll.cls = "XmppPairModel" ∧ y_U_putAll.cls ≠ "java/lang/invoke/MethodHandle" ∧ y_U_putAll.cls ≠ "java/lang/invoke/VarHandle" ∧ (parseMethodDescriptor y_U_putAll.desc).map (fun d => d.parameters.length) = some 5 := by decide +kernel
theorem gd_U_U_route : GoodIn xw_ws (wsV "XmppPairModel" 115 "XmppPairModel" y_U_route (Cond.code y_U_route b_U_route 8 (some .int) :: xw_ws)) := xw_goodV cd_U_route ml_U_115 im_U_route sl_U_route ii_U
theorem hd_U_route : y_U_route.cls = "XmppPairModel" ∧ y_U_route.cls ≠ "java/lang/invoke/MethodHandle" ∧ y_U_route.cls ≠ "java/lang/invoke/VarHandle" ∧ (parseMethodDescriptor y_U_route.desc).map (fun d => d.parameters.length) = some 5 := by decide +kernel
theorem gd_U_U_mark : GoodIn xw_ws (wsV "XmppPairModel" 119 "XmppPairModel" y_U_mark (Cond.code y_U_mark b_U_mark 4 none :: xw_ws)) := xw_goodV cd_U_mark ml_U_119 im_U_mark sl_U_mark ii_U
theorem hd_U_mark : y_U_mark.cls = "XmppPairModel" ∧ y_U_mark.cls ≠ "java/lang/invoke/MethodHandle" ∧ y_U_mark.cls ≠ "java/lang/invoke/VarHandle" ∧ (parseMethodDescriptor y_U_mark.desc).map (fun d => d.parameters.length) = some 3 := by decide +kernel
theorem gd_U_U_end : GoodIn xw_ws (wsV "XmppPairModel" 122 "XmppPairModel" y_U_end (Cond.code y_U_end b_U_end 5 none :: xw_ws)) := xw_goodV cd_U_end ml_U_122 im_U_end sl_U_end ii_U
theorem hd_U_end : y_U_end.cls = "XmppPairModel" ∧ y_U_end.cls ≠ "java/lang/invoke/MethodHandle" ∧ y_U_end.cls ≠ "java/lang/invoke/VarHandle" ∧ (parseMethodDescriptor y_U_end.desc).map (fun d => d.parameters.length) = some 4 := by decide +kernel
theorem gd_U_U_hold : GoodIn xw_ws (wsV "XmppPairModel" 129 "XmppPairModel" y_U_hold (Cond.code y_U_hold b_U_hold 7 none :: xw_ws)) := xw_goodV cd_U_hold ml_U_129 im_U_hold sl_U_hold ii_U
theorem hd_U_hold : y_U_hold.cls = "XmppPairModel" ∧ y_U_hold.cls ≠ "java/lang/invoke/MethodHandle" ∧ y_U_hold.cls ≠ "java/lang/invoke/VarHandle" ∧ (parseMethodDescriptor y_U_hold.desc).map (fun d => d.parameters.length) = some 6 := by decide +kernel
theorem gd_U_U_arrive : GoodIn xw_ws (wsV "XmppPairModel" 133 "XmppPairModel" y_U_arrive (Cond.code y_U_arrive b_U_arrive 7 none :: xw_ws)) := xw_goodV cd_U_arrive ml_U_133 im_U_arrive sl_U_arrive ii_U
theorem hd_U_arrive : y_U_arrive.cls = "XmppPairModel" ∧ y_U_arrive.cls ≠ "java/lang/invoke/MethodHandle" ∧ y_U_arrive.cls ≠ "java/lang/invoke/VarHandle" ∧ (parseMethodDescriptor y_U_arrive.desc).map (fun d => d.parameters.length) = some 6 := by decide +kernel
theorem gd_U_U_isAccount : GoodIn xw_ws (wsS "XmppPairModel" 136 y_U_isAccount (Cond.code y_U_isAccount b_U_isAccount 1 (some .boolean) :: xw_ws)) := xw_goodS cd_U_isAccount ml_U_136 sm_U_isAccount ii_U
theorem hd_U_isAccount : y_U_isAccount.cls = "XmppPairModel" ∧ y_U_isAccount.cls ≠ "java/lang/invoke/MethodHandle" ∧ y_U_isAccount.cls ≠ "java/lang/invoke/VarHandle" ∧ (parseMethodDescriptor y_U_isAccount.desc).map (fun d => d.parameters.length) = some 1 := by decide +kernel
theorem gd_U_U_raise : GoodIn xw_ws (wsV "XmppPairModel" 140 "XmppPairModel" y_U_raise (Cond.code y_U_raise b_U_raise 2 (some .int) :: xw_ws)) := xw_goodV cd_U_raise ml_U_140 im_U_raise sl_U_raise ii_U
theorem hd_U_raise : y_U_raise.cls = "XmppPairModel" ∧ y_U_raise.cls ≠ "java/lang/invoke/MethodHandle" ∧ y_U_raise.cls ≠ "java/lang/invoke/VarHandle" ∧ (parseMethodDescriptor y_U_raise.desc).map (fun d => d.parameters.length) = some 1 := by decide +kernel
theorem gd_U_U_isConnection : GoodIn xw_ws (wsS "XmppPairModel" 144 y_U_isConnection (Cond.code y_U_isConnection b_U_isConnection 1 (some .boolean) :: xw_ws)) := xw_goodS cd_U_isConnection ml_U_144 sm_U_isConnection ii_U
theorem hd_U_isConnection : y_U_isConnection.cls = "XmppPairModel" ∧ y_U_isConnection.cls ≠ "java/lang/invoke/MethodHandle" ∧ y_U_isConnection.cls ≠ "java/lang/invoke/VarHandle" ∧ (parseMethodDescriptor y_U_isConnection.desc).map (fun d => d.parameters.length) = some 1 := by decide +kernel
theorem gd_U_U_send : GoodIn xw_ws (wsV "XmppPairModel" 156 "XmppPairModel" y_U_send (Cond.code y_U_send b_U_send 12 none :: xw_ws)) := xw_goodV cd_U_send ml_U_156 im_U_send sl_U_send ii_U
theorem hd_U_send : y_U_send.cls = "XmppPairModel" ∧ y_U_send.cls ≠ "java/lang/invoke/MethodHandle" ∧ y_U_send.cls ≠ "java/lang/invoke/VarHandle" ∧ (parseMethodDescriptor y_U_send.desc).map (fun d => d.parameters.length) = some 6 := by decide +kernel
theorem gd_U_U_tell : GoodIn xw_ws (wsV "XmppPairModel" 159 "XmppPairModel" y_U_tell (Cond.code y_U_tell b_U_tell 5 none :: xw_ws)) := xw_goodV cd_U_tell ml_U_159 im_U_tell sl_U_tell ii_U
theorem hd_U_tell : y_U_tell.cls = "XmppPairModel" ∧ y_U_tell.cls ≠ "java/lang/invoke/MethodHandle" ∧ y_U_tell.cls ≠ "java/lang/invoke/VarHandle" ∧ (parseMethodDescriptor y_U_tell.desc).map (fun d => d.parameters.length) = some 2 := by decide +kernel
theorem gd_U_U_shut : GoodIn xw_ws (wsV "XmppPairModel" 163 "XmppPairModel" y_U_shut (Cond.code y_U_shut b_U_shut 2 none :: xw_ws)) := xw_goodV cd_U_shut ml_U_163 im_U_shut sl_U_shut ii_U
theorem hd_U_shut : y_U_shut.cls = "XmppPairModel" ∧ y_U_shut.cls ≠ "java/lang/invoke/MethodHandle" ∧ y_U_shut.cls ≠ "java/lang/invoke/VarHandle" ∧ (parseMethodDescriptor y_U_shut.desc).map (fun d => d.parameters.length) = some 1 := by decide +kernel
theorem gd_U_U_welcome : GoodIn xw_ws (wsV "XmppPairModel" 167 "XmppPairModel" y_U_welcome (Cond.code y_U_welcome b_U_welcome 5 none :: xw_ws)) := xw_goodV cd_U_welcome ml_U_167 im_U_welcome sl_U_welcome ii_U
theorem hd_U_welcome : y_U_welcome.cls = "XmppPairModel" ∧ y_U_welcome.cls ≠ "java/lang/invoke/MethodHandle" ∧ y_U_welcome.cls ≠ "java/lang/invoke/VarHandle" ∧ (parseMethodDescriptor y_U_welcome.desc).map (fun d => d.parameters.length) = some 1 := by decide +kernel
theorem gd_U_U_show : GoodIn xw_ws (wsV "XmppPairModel" 170 "XmppPairModel" y_U_show (Cond.code y_U_show b_U_show 5 none :: xw_ws)) := xw_goodV cd_U_show ml_U_170 im_U_show sl_U_show ii_U
theorem hd_U_show : y_U_show.cls = "XmppPairModel" ∧ y_U_show.cls ≠ "java/lang/invoke/MethodHandle" ∧ y_U_show.cls ≠ "java/lang/invoke/VarHandle" ∧ (parseMethodDescriptor y_U_show.desc).map (fun d => d.parameters.length) = some 3 := by decide +kernel
theorem gd_L_X_register : GoodIn xw_ws (wsV "XmppPairLaw" 7 "XmppPair" y_X_register (Cond.code y_X_register b_X_register 4 (some .int) :: xw_ws)) := xw_goodV cd_X_register ml_L_7 im_X_register sl_X_register ii_X
theorem hd_X_register : y_X_register.cls = "XmppPair" ∧ y_X_register.cls ≠ "java/lang/invoke/MethodHandle" ∧ y_X_register.cls ≠ "java/lang/invoke/VarHandle" ∧ (parseMethodDescriptor y_X_register.desc).map (fun d => d.parameters.length) = some 2 := by decide +kernel
theorem gd_L_X_connect : GoodIn xw_ws (wsV "XmppPairLaw" 17 "XmppPair" y_X_connect (Cond.code y_X_connect b_X_connect 3 (some .int) :: xw_ws)) := xw_goodV cd_X_connect ml_L_17 im_X_connect sl_X_connect ii_X
theorem hd_X_connect : y_X_connect.cls = "XmppPair" ∧ y_X_connect.cls ≠ "java/lang/invoke/MethodHandle" ∧ y_X_connect.cls ≠ "java/lang/invoke/VarHandle" ∧ (parseMethodDescriptor y_X_connect.desc).map (fun d => d.parameters.length) = some 1 := by decide +kernel
theorem gd_L_X_login : GoodIn xw_ws (wsV "XmppPairLaw" 21 "XmppPair" y_X_login (Cond.code y_X_login b_X_login 4 (some .int) :: xw_ws)) := xw_goodV cd_X_login ml_L_21 im_X_login sl_X_login ii_X
theorem hd_X_login : y_X_login.cls = "XmppPair" ∧ y_X_login.cls ≠ "java/lang/invoke/MethodHandle" ∧ y_X_login.cls ≠ "java/lang/invoke/VarHandle" ∧ (parseMethodDescriptor y_X_login.desc).map (fun d => d.parameters.length) = some 2 := by decide +kernel
theorem gd_L_X_prove : GoodIn xw_ws (wsV "XmppPairLaw" 24 "XmppPair" y_X_prove (Cond.code y_X_prove b_X_prove 4 (some .int) :: xw_ws)) := xw_goodV cd_X_prove ml_L_24 im_X_prove sl_X_prove ii_X
theorem hd_X_prove : y_X_prove.cls = "XmppPair" ∧ y_X_prove.cls ≠ "java/lang/invoke/MethodHandle" ∧ y_X_prove.cls ≠ "java/lang/invoke/VarHandle" ∧ (parseMethodDescriptor y_X_prove.desc).map (fun d => d.parameters.length) = some 2 := by decide +kernel
theorem gd_L_X_bind : GoodIn xw_ws (wsV "XmppPairLaw" 29 "XmppPair" y_X_bind (Cond.code y_X_bind b_X_bind 5 (some .int) :: xw_ws)) := xw_goodV cd_X_bind ml_L_29 im_X_bind sl_X_bind ii_X
theorem hd_X_bind : y_X_bind.cls = "XmppPair" ∧ y_X_bind.cls ≠ "java/lang/invoke/MethodHandle" ∧ y_X_bind.cls ≠ "java/lang/invoke/VarHandle" ∧ (parseMethodDescriptor y_X_bind.desc).map (fun d => d.parameters.length) = some 2 := by decide +kernel
theorem gd_L_X_here : GoodIn xw_ws (wsV "XmppPairLaw" 32 "XmppPair" y_X_here (Cond.code y_X_here b_X_here 5 (some .int) :: xw_ws)) := xw_goodV cd_X_here ml_L_32 im_X_here sl_X_here ii_X
theorem hd_X_here : y_X_here.cls = "XmppPair" ∧ y_X_here.cls ≠ "java/lang/invoke/MethodHandle" ∧ y_X_here.cls ≠ "java/lang/invoke/VarHandle" ∧ (parseMethodDescriptor y_X_here.desc).map (fun d => d.parameters.length) = some 2 := by decide +kernel
theorem gd_L_X_gone : GoodIn xw_ws (wsV "XmppPairLaw" 35 "XmppPair" y_X_gone (Cond.code y_X_gone b_X_gone 3 (some .int) :: xw_ws)) := xw_goodV cd_X_gone ml_L_35 im_X_gone sl_X_gone ii_X
theorem hd_X_gone : y_X_gone.cls = "XmppPair" ∧ y_X_gone.cls ≠ "java/lang/invoke/MethodHandle" ∧ y_X_gone.cls ≠ "java/lang/invoke/VarHandle" ∧ (parseMethodDescriptor y_X_gone.desc).map (fun d => d.parameters.length) = some 1 := by decide +kernel
theorem gd_L_X_close : GoodIn xw_ws (wsV "XmppPairLaw" 38 "XmppPair" y_X_close (Cond.code y_X_close b_X_close 4 (some .int) :: xw_ws)) := xw_goodV cd_X_close ml_L_38 im_X_close sl_X_close ii_X
theorem hd_X_close : y_X_close.cls = "XmppPair" ∧ y_X_close.cls ≠ "java/lang/invoke/MethodHandle" ∧ y_X_close.cls ≠ "java/lang/invoke/VarHandle" ∧ (parseMethodDescriptor y_X_close.desc).map (fun d => d.parameters.length) = some 1 := by decide +kernel
theorem gd_L_X_message : GoodIn xw_ws (wsV "XmppPairLaw" 41 "XmppPair" y_X_message (Cond.code y_X_message b_X_message 6 (some .int) :: xw_ws)) := xw_goodV cd_X_message ml_L_41 im_X_message sl_X_message ii_X
theorem hd_X_message : y_X_message.cls = "XmppPair" ∧ y_X_message.cls ≠ "java/lang/invoke/MethodHandle" ∧ y_X_message.cls ≠ "java/lang/invoke/VarHandle" ∧ (parseMethodDescriptor y_X_message.desc).map (fun d => d.parameters.length) = some 4 := by decide +kernel
theorem gd_L_X_subscribe : GoodIn xw_ws (wsV "XmppPairLaw" 45 "XmppPair" y_X_subscribe (Cond.code y_X_subscribe b_X_subscribe 6 (some .int) :: xw_ws)) := xw_goodV cd_X_subscribe ml_L_45 im_X_subscribe sl_X_subscribe ii_X
theorem hd_X_subscribe : y_X_subscribe.cls = "XmppPair" ∧ y_X_subscribe.cls ≠ "java/lang/invoke/MethodHandle" ∧ y_X_subscribe.cls ≠ "java/lang/invoke/VarHandle" ∧ (parseMethodDescriptor y_X_subscribe.desc).map (fun d => d.parameters.length) = some 3 := by decide +kernel
theorem gd_L_X_take : GoodIn xw_ws (wsV "XmppPairLaw" 49 "XmppPair" y_X_take (Cond.code y_X_take b_X_take 4 (some .int) :: xw_ws)) := xw_goodV cd_X_take ml_L_49 im_X_take sl_X_take ii_X
theorem hd_X_take : y_X_take.cls = "XmppPair" ∧ y_X_take.cls ≠ "java/lang/invoke/MethodHandle" ∧ y_X_take.cls ≠ "java/lang/invoke/VarHandle" ∧ (parseMethodDescriptor y_X_take.desc).map (fun d => d.parameters.length) = some 1 := by decide +kernel
theorem gd_L_X_taken : GoodIn xw_ws (wsV "XmppPairLaw" 54 "XmppPair" y_X_taken (Cond.code y_X_taken b_X_taken 3 (some .int) :: xw_ws)) := xw_goodV cd_X_taken ml_L_54 im_X_taken sl_X_taken ii_X
theorem hd_X_taken : y_X_taken.cls = "XmppPair" ∧ y_X_taken.cls ≠ "java/lang/invoke/MethodHandle" ∧ y_X_taken.cls ≠ "java/lang/invoke/VarHandle" ∧ (parseMethodDescriptor y_X_taken.desc).map (fun d => d.parameters.length) = some 1 := by decide +kernel
theorem gd_L_X_roster : GoodIn xw_ws (wsV "XmppPairLaw" 57 "XmppPair" y_X_roster (Cond.code y_X_roster b_X_roster 3 (some .int) :: xw_ws)) := xw_goodV cd_X_roster ml_L_57 im_X_roster sl_X_roster ii_X
theorem hd_X_roster : y_X_roster.cls = "XmppPair" ∧ y_X_roster.cls ≠ "java/lang/invoke/MethodHandle" ∧ y_X_roster.cls ≠ "java/lang/invoke/VarHandle" ∧ (parseMethodDescriptor y_X_roster.desc).map (fun d => d.parameters.length) = some 2 := by decide +kernel
theorem gd_L_X_connection : GoodIn xw_ws (wsV "XmppPairLaw" 60 "XmppPair" y_X_connection (Cond.code y_X_connection b_X_connection 4 (some .int) :: xw_ws)) := xw_goodV cd_X_connection ml_L_60 im_X_connection sl_X_connection ii_X
theorem hd_X_connection : y_X_connection.cls = "XmppPair" ∧ y_X_connection.cls ≠ "java/lang/invoke/MethodHandle" ∧ y_X_connection.cls ≠ "java/lang/invoke/VarHandle" ∧ (parseMethodDescriptor y_X_connection.desc).map (fun d => d.parameters.length) = some 2 := by decide +kernel
theorem gd_L_X_count : GoodIn xw_ws (wsV "XmppPairLaw" 63 "XmppPair" y_X_count (Cond.code y_X_count b_X_count 2 (some .int) :: xw_ws)) := xw_goodV cd_X_count ml_L_63 im_X_count sl_X_count ii_X
theorem hd_X_count : y_X_count.cls = "XmppPair" ∧ y_X_count.cls ≠ "java/lang/invoke/MethodHandle" ∧ y_X_count.cls ≠ "java/lang/invoke/VarHandle" ∧ (parseMethodDescriptor y_X_count.desc).map (fun d => d.parameters.length) = some 1 := by decide +kernel
theorem gd_L_U_register : GoodIn xw_ws (wsV "XmppPairLaw" 75 "XmppPairModel" y_U_register (Cond.code y_U_register b_U_register 3 (some .int) :: xw_ws)) := xw_goodV cd_U_register ml_L_75 im_U_register sl_U_register ii_U
theorem hd_U_register : y_U_register.cls = "XmppPairModel" ∧ y_U_register.cls ≠ "java/lang/invoke/MethodHandle" ∧ y_U_register.cls ≠ "java/lang/invoke/VarHandle" ∧ (parseMethodDescriptor y_U_register.desc).map (fun d => d.parameters.length) = some 2 := by decide +kernel
theorem gd_L_U_thrown : GoodIn xw_ws (wsV "XmppPairLaw" 76 "XmppPairModel" y_U_thrown (Cond.code y_U_thrown b_U_thrown 1 (some .int) :: xw_ws)) := xw_goodV cd_U_thrown ml_L_76 im_U_thrown sl_U_thrown ii_U
theorem hd_U_thrown : y_U_thrown.cls = "XmppPairModel" ∧ y_U_thrown.cls ≠ "java/lang/invoke/MethodHandle" ∧ y_U_thrown.cls ≠ "java/lang/invoke/VarHandle" ∧ (parseMethodDescriptor y_U_thrown.desc).map (fun d => d.parameters.length) = some 0 := by decide +kernel
theorem gd_L_U_connect : GoodIn xw_ws (wsV "XmppPairLaw" 83 "XmppPairModel" y_U_connect (Cond.code y_U_connect b_U_connect 2 (some .int) :: xw_ws)) := xw_goodV cd_U_connect ml_L_83 im_U_connect sl_U_connect ii_U
theorem hd_U_connect : y_U_connect.cls = "XmppPairModel" ∧ y_U_connect.cls ≠ "java/lang/invoke/MethodHandle" ∧ y_U_connect.cls ≠ "java/lang/invoke/VarHandle" ∧ (parseMethodDescriptor y_U_connect.desc).map (fun d => d.parameters.length) = some 1 := by decide +kernel
theorem gd_L_U_login : GoodIn xw_ws (wsV "XmppPairLaw" 86 "XmppPairModel" y_U_login (Cond.code y_U_login b_U_login 3 (some .int) :: xw_ws)) := xw_goodV cd_U_login ml_L_86 im_U_login sl_U_login ii_U
theorem hd_U_login : y_U_login.cls = "XmppPairModel" ∧ y_U_login.cls ≠ "java/lang/invoke/MethodHandle" ∧ y_U_login.cls ≠ "java/lang/invoke/VarHandle" ∧ (parseMethodDescriptor y_U_login.desc).map (fun d => d.parameters.length) = some 2 := by decide +kernel
theorem gd_L_U_prove : GoodIn xw_ws (wsV "XmppPairLaw" 89 "XmppPairModel" y_U_prove (Cond.code y_U_prove b_U_prove 4 (some .int) :: xw_ws)) := xw_goodV cd_U_prove ml_L_89 im_U_prove sl_U_prove ii_U
theorem hd_U_prove : y_U_prove.cls = "XmppPairModel" ∧ y_U_prove.cls ≠ "java/lang/invoke/MethodHandle" ∧ y_U_prove.cls ≠ "java/lang/invoke/VarHandle" ∧ (parseMethodDescriptor y_U_prove.desc).map (fun d => d.parameters.length) = some 2 := by decide +kernel
theorem gd_L_U_bind : GoodIn xw_ws (wsV "XmppPairLaw" 92 "XmppPairModel" y_U_bind (Cond.code y_U_bind b_U_bind 5 (some .int) :: xw_ws)) := xw_goodV cd_U_bind ml_L_92 im_U_bind sl_U_bind ii_U
theorem hd_U_bind : y_U_bind.cls = "XmppPairModel" ∧ y_U_bind.cls ≠ "java/lang/invoke/MethodHandle" ∧ y_U_bind.cls ≠ "java/lang/invoke/VarHandle" ∧ (parseMethodDescriptor y_U_bind.desc).map (fun d => d.parameters.length) = some 2 := by decide +kernel
theorem gd_L_U_here : GoodIn xw_ws (wsV "XmppPairLaw" 95 "XmppPairModel" y_U_here (Cond.code y_U_here b_U_here 4 (some .int) :: xw_ws)) := xw_goodV cd_U_here ml_L_95 im_U_here sl_U_here ii_U
theorem hd_U_here : y_U_here.cls = "XmppPairModel" ∧ y_U_here.cls ≠ "java/lang/invoke/MethodHandle" ∧ y_U_here.cls ≠ "java/lang/invoke/VarHandle" ∧ (parseMethodDescriptor y_U_here.desc).map (fun d => d.parameters.length) = some 2 := by decide +kernel
theorem gd_L_U_gone : GoodIn xw_ws (wsV "XmppPairLaw" 98 "XmppPairModel" y_U_gone (Cond.code y_U_gone b_U_gone 2 (some .int) :: xw_ws)) := xw_goodV cd_U_gone ml_L_98 im_U_gone sl_U_gone ii_U
theorem hd_U_gone : y_U_gone.cls = "XmppPairModel" ∧ y_U_gone.cls ≠ "java/lang/invoke/MethodHandle" ∧ y_U_gone.cls ≠ "java/lang/invoke/VarHandle" ∧ (parseMethodDescriptor y_U_gone.desc).map (fun d => d.parameters.length) = some 1 := by decide +kernel
theorem gd_L_U_close : GoodIn xw_ws (wsV "XmppPairLaw" 101 "XmppPairModel" y_U_close (Cond.code y_U_close b_U_close 3 (some .int) :: xw_ws)) := xw_goodV cd_U_close ml_L_101 im_U_close sl_U_close ii_U
theorem hd_U_close : y_U_close.cls = "XmppPairModel" ∧ y_U_close.cls ≠ "java/lang/invoke/MethodHandle" ∧ y_U_close.cls ≠ "java/lang/invoke/VarHandle" ∧ (parseMethodDescriptor y_U_close.desc).map (fun d => d.parameters.length) = some 1 := by decide +kernel
theorem gd_L_U_message : GoodIn xw_ws (wsV "XmppPairLaw" 105 "XmppPairModel" y_U_message (Cond.code y_U_message b_U_message 5 (some .int) :: xw_ws)) := xw_goodV cd_U_message ml_L_105 im_U_message sl_U_message ii_U
theorem hd_U_message : y_U_message.cls = "XmppPairModel" ∧ y_U_message.cls ≠ "java/lang/invoke/MethodHandle" ∧ y_U_message.cls ≠ "java/lang/invoke/VarHandle" ∧ (parseMethodDescriptor y_U_message.desc).map (fun d => d.parameters.length) = some 4 := by decide +kernel
theorem gd_L_U_subscribe : GoodIn xw_ws (wsV "XmppPairLaw" 109 "XmppPairModel" y_U_subscribe (Cond.code y_U_subscribe b_U_subscribe 5 (some .int) :: xw_ws)) := xw_goodV cd_U_subscribe ml_L_109 im_U_subscribe sl_U_subscribe ii_U
theorem hd_U_subscribe : y_U_subscribe.cls = "XmppPairModel" ∧ y_U_subscribe.cls ≠ "java/lang/invoke/MethodHandle" ∧ y_U_subscribe.cls ≠ "java/lang/invoke/VarHandle" ∧ (parseMethodDescriptor y_U_subscribe.desc).map (fun d => d.parameters.length) = some 3 := by decide +kernel
theorem gd_L_X_link : GoodIn xw_ws (wsV "XmppPairLaw" 110 "XmppPair" y_X_link (Cond.code y_X_link b_X_link 4 (some .int) :: xw_ws)) := xw_goodV cd_X_link ml_L_110 im_X_link sl_X_link ii_X
theorem hd_X_link : y_X_link.cls = "XmppPair" ∧ y_X_link.cls ≠ "java/lang/invoke/MethodHandle" ∧ y_X_link.cls ≠ "java/lang/invoke/VarHandle" ∧ (parseMethodDescriptor y_X_link.desc).map (fun d => d.parameters.length) = some 1 := by decide +kernel
theorem gd_L_U_link : GoodIn xw_ws (wsV "XmppPairLaw" 114 "XmppPairModel" y_U_link (Cond.code y_U_link b_U_link 4 (some .int) :: xw_ws)) := xw_goodV cd_U_link ml_L_114 im_U_link sl_U_link ii_U
theorem hd_U_link : y_U_link.cls = "XmppPairModel" ∧ y_U_link.cls ≠ "java/lang/invoke/MethodHandle" ∧ y_U_link.cls ≠ "java/lang/invoke/VarHandle" ∧ (parseMethodDescriptor y_U_link.desc).map (fun d => d.parameters.length) = some 1 := by decide +kernel
theorem gd_L_U_take : GoodIn xw_ws (wsV "XmppPairLaw" 117 "XmppPairModel" y_U_take (Cond.code y_U_take b_U_take 5 (some .int) :: xw_ws)) := xw_goodV cd_U_take ml_L_117 im_U_take sl_U_take ii_U
theorem hd_U_take : y_U_take.cls = "XmppPairModel" ∧ y_U_take.cls ≠ "java/lang/invoke/MethodHandle" ∧ y_U_take.cls ≠ "java/lang/invoke/VarHandle" ∧ (parseMethodDescriptor y_U_take.desc).map (fun d => d.parameters.length) = some 1 := by decide +kernel
theorem gd_L_U_taken : GoodIn xw_ws (wsV "XmppPairLaw" 120 "XmppPairModel" y_U_taken (Cond.code y_U_taken b_U_taken 2 (some .int) :: xw_ws)) := xw_goodV cd_U_taken ml_L_120 im_U_taken sl_U_taken ii_U
theorem hd_U_taken : y_U_taken.cls = "XmppPairModel" ∧ y_U_taken.cls ≠ "java/lang/invoke/MethodHandle" ∧ y_U_taken.cls ≠ "java/lang/invoke/VarHandle" ∧ (parseMethodDescriptor y_U_taken.desc).map (fun d => d.parameters.length) = some 1 := by decide +kernel
theorem gd_L_U_roster : GoodIn xw_ws (wsV "XmppPairLaw" 123 "XmppPairModel" y_U_roster (Cond.code y_U_roster b_U_roster 3 (some .int) :: xw_ws)) := xw_goodV cd_U_roster ml_L_123 im_U_roster sl_U_roster ii_U
theorem hd_U_roster : y_U_roster.cls = "XmppPairModel" ∧ y_U_roster.cls ≠ "java/lang/invoke/MethodHandle" ∧ y_U_roster.cls ≠ "java/lang/invoke/VarHandle" ∧ (parseMethodDescriptor y_U_roster.desc).map (fun d => d.parameters.length) = some 2 := by decide +kernel
theorem gd_L_U_connection : GoodIn xw_ws (wsV "XmppPairLaw" 126 "XmppPairModel" y_U_connection (Cond.code y_U_connection b_U_connection 3 (some .int) :: xw_ws)) := xw_goodV cd_U_connection ml_L_126 im_U_connection sl_U_connection ii_U
theorem hd_U_connection : y_U_connection.cls = "XmppPairModel" ∧ y_U_connection.cls ≠ "java/lang/invoke/MethodHandle" ∧ y_U_connection.cls ≠ "java/lang/invoke/VarHandle" ∧ (parseMethodDescriptor y_U_connection.desc).map (fun d => d.parameters.length) = some 2 := by decide +kernel
theorem gd_L_U_count : GoodIn xw_ws (wsV "XmppPairLaw" 129 "XmppPairModel" y_U_count (Cond.code y_U_count b_U_count 4 (some .int) :: xw_ws)) := xw_goodV cd_U_count ml_L_129 im_U_count sl_U_count ii_U
theorem hd_U_count : y_U_count.cls = "XmppPairModel" ∧ y_U_count.cls ≠ "java/lang/invoke/MethodHandle" ∧ y_U_count.cls ≠ "java/lang/invoke/VarHandle" ∧ (parseMethodDescriptor y_U_count.desc).map (fun d => d.parameters.length) = some 1 := by decide +kernel
end
section
theorem d_X_init_0 : decode b_X_init 0 = .ok (.aload_n 0, 1) := by decide +kernel
theorem d_X_init_1 : decode b_X_init 1 = .ok (.invokespecial 1, 3) := by decide +kernel
theorem d_X_init_4 : decode b_X_init 4 = .ok (.new 7, 3) := by decide +kernel
theorem d_X_init_7 : decode b_X_init 7 = .ok (.dup, 1) := by decide +kernel
theorem d_X_init_8 : decode b_X_init 8 = .ok (.iconst 0, 1) := by decide +kernel
theorem d_X_init_9 : decode b_X_init 9 = .ok (.iconst (-1), 1) := by decide +kernel
theorem d_X_init_10 : decode b_X_init 10 = .ok (.iconst (-1), 1) := by decide +kernel
theorem d_X_init_11 : decode b_X_init 11 = .ok (.iconst 0, 1) := by decide +kernel
theorem d_X_init_12 : decode b_X_init 12 = .ok (.iconst (-1), 1) := by decide +kernel
theorem d_X_init_13 : decode b_X_init 13 = .ok (.iconst (-1), 1) := by decide +kernel
theorem d_X_init_14 : decode b_X_init 14 = .ok (.invokespecial 11, 3) := by decide +kernel
theorem d_X_init_17 : decode b_X_init 17 = .ok (.astore_n 1, 1) := by decide +kernel
theorem d_X_init_18 : decode b_X_init 18 = .ok (.aload_n 0, 1) := by decide +kernel
theorem d_X_init_19 : decode b_X_init 19 = .ok (.bipush 8, 2) := by decide +kernel
theorem d_X_init_21 : decode b_X_init 21 = .ok (.anewarray 14, 3) := by decide +kernel
theorem d_X_init_24 : decode b_X_init 24 = .ok (.putfield 16, 3) := by decide +kernel
theorem d_X_init_27 : decode b_X_init 27 = .ok (.iconst 0, 1) := by decide +kernel
theorem d_X_init_28 : decode b_X_init 28 = .ok (.istore_n 2, 1) := by decide +kernel
theorem d_X_init_29 : decode b_X_init 29 = .ok (.iload_n 2, 1) := by decide +kernel
theorem d_X_init_30 : decode b_X_init 30 = .ok (.bipush 8, 2) := by decide +kernel
theorem d_X_init_32 : decode b_X_init 32 = .ok (.if_icmp .ge 23, 3) := by decide +kernel
theorem d_X_init_35 : decode b_X_init 35 = .ok (.aload_n 0, 1) := by decide +kernel
theorem d_X_init_36 : decode b_X_init 36 = .ok (.getfield 16, 3) := by decide +kernel
theorem d_X_init_39 : decode b_X_init 39 = .ok (.iload_n 2, 1) := by decide +kernel
theorem d_X_init_40 : decode b_X_init 40 = .ok (.new 14, 3) := by decide +kernel
theorem d_X_init_43 : decode b_X_init 43 = .ok (.dup, 1) := by decide +kernel
theorem d_X_init_44 : decode b_X_init 44 = .ok (.aload_n 1, 1) := by decide +kernel
theorem d_X_init_45 : decode b_X_init 45 = .ok (.invokespecial 20, 3) := by decide +kernel
theorem d_X_init_48 : decode b_X_init 48 = .ok (.aastore, 1) := by decide +kernel
theorem d_X_init_49 : decode b_X_init 49 = .ok (.iinc 2 1, 3) := by decide +kernel
theorem d_X_init_52 : decode b_X_init 52 = .ok (.goto (-23), 3) := by decide +kernel
theorem d_X_init_55 : decode b_X_init 55 = .ok (.aload_n 0, 1) := by decide +kernel
theorem d_X_init_56 : decode b_X_init 56 = .ok (.bipush 6, 2) := by decide +kernel
theorem d_X_init_58 : decode b_X_init 58 = .ok (.anewarray 23, 3) := by decide +kernel
theorem d_X_init_61 : decode b_X_init 61 = .ok (.putfield 25, 3) := by decide +kernel
theorem d_X_init_64 : decode b_X_init 64 = .ok (.iconst 0, 1) := by decide +kernel
theorem d_X_init_65 : decode b_X_init 65 = .ok (.istore_n 2, 1) := by decide +kernel
theorem d_X_init_66 : decode b_X_init 66 = .ok (.iload_n 2, 1) := by decide +kernel
theorem d_X_init_67 : decode b_X_init 67 = .ok (.bipush 6, 2) := by decide +kernel
theorem d_X_init_69 : decode b_X_init 69 = .ok (.if_icmp .ge 23, 3) := by decide +kernel
theorem d_X_init_72 : decode b_X_init 72 = .ok (.aload_n 0, 1) := by decide +kernel
theorem d_X_init_73 : decode b_X_init 73 = .ok (.getfield 25, 3) := by decide +kernel
theorem d_X_init_76 : decode b_X_init 76 = .ok (.iload_n 2, 1) := by decide +kernel
theorem d_X_init_77 : decode b_X_init 77 = .ok (.new 23, 3) := by decide +kernel
theorem d_X_init_80 : decode b_X_init 80 = .ok (.dup, 1) := by decide +kernel
theorem d_X_init_81 : decode b_X_init 81 = .ok (.aload_n 1, 1) := by decide +kernel
theorem d_X_init_82 : decode b_X_init 82 = .ok (.invokespecial 29, 3) := by decide +kernel
theorem d_X_init_85 : decode b_X_init 85 = .ok (.aastore, 1) := by decide +kernel
theorem d_X_init_86 : decode b_X_init 86 = .ok (.iinc 2 1, 3) := by decide +kernel
theorem d_X_init_89 : decode b_X_init 89 = .ok (.goto (-23), 3) := by decide +kernel
theorem d_X_init_92 : decode b_X_init 92 = .ok (.aload_n 0, 1) := by decide +kernel
theorem d_X_init_93 : decode b_X_init 93 = .ok (.new 30, 3) := by decide +kernel
theorem d_X_init_96 : decode b_X_init 96 = .ok (.dup, 1) := by decide +kernel
theorem d_X_init_97 : decode b_X_init 97 = .ok (.bipush 8, 2) := by decide +kernel
theorem d_X_init_99 : decode b_X_init 99 = .ok (.aload_n 1, 1) := by decide +kernel
theorem d_X_init_100 : decode b_X_init 100 = .ok (.invokespecial 32, 3) := by decide +kernel
theorem d_X_init_103 : decode b_X_init 103 = .ok (.putfield 35, 3) := by decide +kernel
theorem d_X_init_106 : decode b_X_init 106 = .ok (.aload_n 0, 1) := by decide +kernel
theorem d_X_init_107 : decode b_X_init 107 = .ok (.iconst 1, 1) := by decide +kernel
theorem d_X_init_108 : decode b_X_init 108 = .ok (.putfield 39, 3) := by decide +kernel
theorem d_X_init_111 : decode b_X_init 111 = .ok (.aload_n 0, 1) := by decide +kernel
theorem d_X_init_112 : decode b_X_init 112 = .ok (.sipush 4242, 3) := by decide +kernel
theorem d_X_init_115 : decode b_X_init 115 = .ok (.putfield 43, 3) := by decide +kernel
theorem d_X_init_118 : decode b_X_init 118 = .ok (.aload_n 0, 1) := by decide +kernel
theorem d_X_init_119 : decode b_X_init 119 = .ok (.aconst_null, 1) := by decide +kernel
theorem d_X_init_120 : decode b_X_init 120 = .ok (.putfield 47, 3) := by decide +kernel
theorem d_X_init_123 : decode b_X_init 123 = .ok (.return_, 1) := by decide +kernel
theorem d_X_register_0 : decode b_X_register 0 = .ok (.iload_n 1, 1) := by decide +kernel
theorem d_X_register_1 : decode b_X_register 1 = .ok (.invokestatic 51, 3) := by decide +kernel
theorem d_X_register_4 : decode b_X_register 4 = .ok (.ifCond .eq 18, 3) := by decide +kernel
theorem d_X_register_7 : decode b_X_register 7 = .ok (.iload_n 2, 1) := by decide +kernel
theorem d_X_register_8 : decode b_X_register 8 = .ok (.ifCond .lt 14, 3) := by decide +kernel
theorem d_X_register_11 : decode b_X_register 11 = .ok (.iload_n 2, 1) := by decide +kernel
theorem d_X_register_12 : decode b_X_register 12 = .ok (.sipush 9999, 3) := by decide +kernel
theorem d_X_register_15 : decode b_X_register 15 = .ok (.if_icmp .gt 7, 3) := by decide +kernel
theorem d_X_register_18 : decode b_X_register 18 = .ok (.iconst 1, 1) := by decide +kernel
theorem d_X_register_19 : decode b_X_register 19 = .ok (.goto 4, 3) := by decide +kernel
theorem d_X_register_22 : decode b_X_register 22 = .ok (.iconst 0, 1) := by decide +kernel
theorem d_X_register_23 : decode b_X_register 23 = .ok (.invokestatic 55, 3) := by decide +kernel
theorem d_X_register_26 : decode b_X_register 26 = .ok (.aload_n 0, 1) := by decide +kernel
theorem d_X_register_27 : decode b_X_register 27 = .ok (.getfield 16, 3) := by decide +kernel
theorem d_X_register_30 : decode b_X_register 30 = .ok (.iload_n 1, 1) := by decide +kernel
theorem d_X_register_31 : decode b_X_register 31 = .ok (.aaload, 1) := by decide +kernel
theorem d_X_register_32 : decode b_X_register 32 = .ok (.astore_n 3, 1) := by decide +kernel
theorem d_X_register_33 : decode b_X_register 33 = .ok (.aload_n 3, 1) := by decide +kernel
theorem d_X_register_34 : decode b_X_register 34 = .ok (.getfield 59, 3) := by decide +kernel
theorem d_X_register_37 : decode b_X_register 37 = .ok (.ifCond .ne 7, 3) := by decide +kernel
theorem d_X_register_40 : decode b_X_register 40 = .ok (.iconst 1, 1) := by decide +kernel
theorem d_X_register_41 : decode b_X_register 41 = .ok (.goto 4, 3) := by decide +kernel
theorem d_X_register_44 : decode b_X_register 44 = .ok (.iconst 0, 1) := by decide +kernel
theorem d_X_register_45 : decode b_X_register 45 = .ok (.invokestatic 62, 3) := by decide +kernel
theorem d_X_register_48 : decode b_X_register 48 = .ok (.aload_n 3, 1) := by decide +kernel
theorem d_X_register_49 : decode b_X_register 49 = .ok (.iconst 1, 1) := by decide +kernel
theorem d_X_register_50 : decode b_X_register 50 = .ok (.putfield 59, 3) := by decide +kernel
theorem d_X_register_53 : decode b_X_register 53 = .ok (.aload_n 3, 1) := by decide +kernel
theorem d_X_register_54 : decode b_X_register 54 = .ok (.iload_n 2, 1) := by decide +kernel
theorem d_X_register_55 : decode b_X_register 55 = .ok (.putfield 65, 3) := by decide +kernel
theorem d_X_register_58 : decode b_X_register 58 = .ok (.iconst 1, 1) := by decide +kernel
theorem d_X_register_59 : decode b_X_register 59 = .ok (.ireturn, 1) := by decide +kernel
theorem d_X_connect_0 : decode b_X_connect 0 = .ok (.iload_n 1, 1) := by decide +kernel
theorem d_X_connect_1 : decode b_X_connect 1 = .ok (.invokestatic 68, 3) := by decide +kernel
theorem d_X_connect_4 : decode b_X_connect 4 = .ok (.invokestatic 55, 3) := by decide +kernel
theorem d_X_connect_7 : decode b_X_connect 7 = .ok (.aload_n 0, 1) := by decide +kernel
theorem d_X_connect_8 : decode b_X_connect 8 = .ok (.getfield 25, 3) := by decide +kernel
theorem d_X_connect_11 : decode b_X_connect 11 = .ok (.iload_n 1, 1) := by decide +kernel
theorem d_X_connect_12 : decode b_X_connect 12 = .ok (.aaload, 1) := by decide +kernel
theorem d_X_connect_13 : decode b_X_connect 13 = .ok (.astore_n 2, 1) := by decide +kernel
theorem d_X_connect_14 : decode b_X_connect 14 = .ok (.aload_n 2, 1) := by decide +kernel
theorem d_X_connect_15 : decode b_X_connect 15 = .ok (.getfield 71, 3) := by decide +kernel
theorem d_X_connect_18 : decode b_X_connect 18 = .ok (.ifCond .ne 7, 3) := by decide +kernel
theorem d_X_connect_21 : decode b_X_connect 21 = .ok (.iconst 1, 1) := by decide +kernel
theorem d_X_connect_22 : decode b_X_connect 22 = .ok (.goto 4, 3) := by decide +kernel
theorem d_X_connect_25 : decode b_X_connect 25 = .ok (.iconst 0, 1) := by decide +kernel
theorem d_X_connect_26 : decode b_X_connect 26 = .ok (.invokestatic 62, 3) := by decide +kernel
theorem d_X_connect_29 : decode b_X_connect 29 = .ok (.aload_n 2, 1) := by decide +kernel
theorem d_X_connect_30 : decode b_X_connect 30 = .ok (.iconst 1, 1) := by decide +kernel
theorem d_X_connect_31 : decode b_X_connect 31 = .ok (.putfield 71, 3) := by decide +kernel
theorem d_X_connect_34 : decode b_X_connect 34 = .ok (.aload_n 2, 1) := by decide +kernel
theorem d_X_connect_35 : decode b_X_connect 35 = .ok (.getfield 74, 3) := by decide +kernel
theorem d_X_connect_38 : decode b_X_connect 38 = .ok (.invokevirtual 77, 3) := by decide +kernel
theorem d_X_connect_41 : decode b_X_connect 41 = .ok (.iconst 1, 1) := by decide +kernel
theorem d_X_connect_42 : decode b_X_connect 42 = .ok (.ireturn, 1) := by decide +kernel
theorem d_X_login_0 : decode b_X_login 0 = .ok (.iload_n 1, 1) := by decide +kernel
theorem d_X_login_1 : decode b_X_login 1 = .ok (.invokestatic 68, 3) := by decide +kernel
theorem d_X_login_4 : decode b_X_login 4 = .ok (.ifCond .eq 14, 3) := by decide +kernel
theorem d_X_login_7 : decode b_X_login 7 = .ok (.iload_n 2, 1) := by decide +kernel
theorem d_X_login_8 : decode b_X_login 8 = .ok (.invokestatic 51, 3) := by decide +kernel
theorem d_X_login_11 : decode b_X_login 11 = .ok (.ifCond .eq 7, 3) := by decide +kernel
theorem d_X_login_14 : decode b_X_login 14 = .ok (.iconst 1, 1) := by decide +kernel
theorem d_X_login_15 : decode b_X_login 15 = .ok (.goto 4, 3) := by decide +kernel
theorem d_X_login_18 : decode b_X_login 18 = .ok (.iconst 0, 1) := by decide +kernel
theorem d_X_login_19 : decode b_X_login 19 = .ok (.invokestatic 55, 3) := by decide +kernel
theorem d_X_login_22 : decode b_X_login 22 = .ok (.aload_n 0, 1) := by decide +kernel
theorem d_X_login_23 : decode b_X_login 23 = .ok (.getfield 25, 3) := by decide +kernel
theorem d_X_login_26 : decode b_X_login 26 = .ok (.iload_n 1, 1) := by decide +kernel
theorem d_X_login_27 : decode b_X_login 27 = .ok (.aaload, 1) := by decide +kernel
theorem d_X_login_28 : decode b_X_login 28 = .ok (.astore_n 3, 1) := by decide +kernel
theorem d_X_login_29 : decode b_X_login 29 = .ok (.aload_n 3, 1) := by decide +kernel
theorem d_X_login_30 : decode b_X_login 30 = .ok (.getfield 71, 3) := by decide +kernel
theorem d_X_login_33 : decode b_X_login 33 = .ok (.iconst 1, 1) := by decide +kernel
theorem d_X_login_34 : decode b_X_login 34 = .ok (.if_icmp .ne 7, 3) := by decide +kernel
theorem d_X_login_37 : decode b_X_login 37 = .ok (.iconst 1, 1) := by decide +kernel
theorem d_X_login_38 : decode b_X_login 38 = .ok (.goto 4, 3) := by decide +kernel
theorem d_X_login_41 : decode b_X_login 41 = .ok (.iconst 0, 1) := by decide +kernel
theorem d_X_login_42 : decode b_X_login 42 = .ok (.invokestatic 62, 3) := by decide +kernel
theorem d_X_login_45 : decode b_X_login 45 = .ok (.aload_n 3, 1) := by decide +kernel
theorem d_X_login_46 : decode b_X_login 46 = .ok (.iconst 2, 1) := by decide +kernel
theorem d_X_login_47 : decode b_X_login 47 = .ok (.putfield 71, 3) := by decide +kernel
theorem d_X_login_50 : decode b_X_login 50 = .ok (.aload_n 3, 1) := by decide +kernel
theorem d_X_login_51 : decode b_X_login 51 = .ok (.iload_n 2, 1) := by decide +kernel
theorem d_X_login_52 : decode b_X_login 52 = .ok (.putfield 80, 3) := by decide +kernel
theorem d_X_login_55 : decode b_X_login 55 = .ok (.aload_n 3, 1) := by decide +kernel
theorem d_X_login_56 : decode b_X_login 56 = .ok (.aload_n 0, 1) := by decide +kernel
theorem d_X_login_57 : decode b_X_login 57 = .ok (.getfield 43, 3) := by decide +kernel
theorem d_X_login_60 : decode b_X_login 60 = .ok (.putfield 83, 3) := by decide +kernel
theorem d_X_login_63 : decode b_X_login 63 = .ok (.aload_n 0, 1) := by decide +kernel
theorem d_X_login_64 : decode b_X_login 64 = .ok (.aload_n 0, 1) := by decide +kernel
theorem d_X_login_65 : decode b_X_login 65 = .ok (.getfield 43, 3) := by decide +kernel
theorem d_X_login_68 : decode b_X_login 68 = .ok (.sipush 7919, 3) := by decide +kernel
theorem d_X_login_71 : decode b_X_login 71 = .ok (.iadd, 1) := by decide +kernel
theorem d_X_login_72 : decode b_X_login 72 = .ok (.sipush 10000, 3) := by decide +kernel
theorem d_X_login_75 : decode b_X_login 75 = .ok (.irem, 1) := by decide +kernel
theorem d_X_login_76 : decode b_X_login 76 = .ok (.putfield 43, 3) := by decide +kernel
theorem d_X_login_79 : decode b_X_login 79 = .ok (.aload_n 3, 1) := by decide +kernel
theorem d_X_login_80 : decode b_X_login 80 = .ok (.getfield 83, 3) := by decide +kernel
theorem d_X_login_83 : decode b_X_login 83 = .ok (.ireturn, 1) := by decide +kernel
theorem d_X_prove_0 : decode b_X_prove 0 = .ok (.iload_n 1, 1) := by decide +kernel
theorem d_X_prove_1 : decode b_X_prove 1 = .ok (.invokestatic 68, 3) := by decide +kernel
theorem d_X_prove_4 : decode b_X_prove 4 = .ok (.invokestatic 55, 3) := by decide +kernel
theorem d_X_prove_7 : decode b_X_prove 7 = .ok (.aload_n 0, 1) := by decide +kernel
theorem d_X_prove_8 : decode b_X_prove 8 = .ok (.getfield 25, 3) := by decide +kernel
theorem d_X_prove_11 : decode b_X_prove 11 = .ok (.iload_n 1, 1) := by decide +kernel
theorem d_X_prove_12 : decode b_X_prove 12 = .ok (.aaload, 1) := by decide +kernel
theorem d_X_prove_13 : decode b_X_prove 13 = .ok (.astore_n 3, 1) := by decide +kernel
theorem d_X_prove_14 : decode b_X_prove 14 = .ok (.aload_n 3, 1) := by decide +kernel
theorem d_X_prove_15 : decode b_X_prove 15 = .ok (.getfield 71, 3) := by decide +kernel
theorem d_X_prove_18 : decode b_X_prove 18 = .ok (.iconst 2, 1) := by decide +kernel
theorem d_X_prove_19 : decode b_X_prove 19 = .ok (.if_icmp .ne 7, 3) := by decide +kernel
theorem d_X_prove_22 : decode b_X_prove 22 = .ok (.iconst 1, 1) := by decide +kernel
theorem d_X_prove_23 : decode b_X_prove 23 = .ok (.goto 4, 3) := by decide +kernel
theorem d_X_prove_26 : decode b_X_prove 26 = .ok (.iconst 0, 1) := by decide +kernel
theorem d_X_prove_27 : decode b_X_prove 27 = .ok (.invokestatic 62, 3) := by decide +kernel
theorem d_X_prove_30 : decode b_X_prove 30 = .ok (.aload_n 0, 1) := by decide +kernel
theorem d_X_prove_31 : decode b_X_prove 31 = .ok (.aload_n 3, 1) := by decide +kernel
theorem d_X_prove_32 : decode b_X_prove 32 = .ok (.iload_n 2, 1) := by decide +kernel
theorem d_X_prove_33 : decode b_X_prove 33 = .ok (.invokevirtual 86, 3) := by decide +kernel
theorem d_X_prove_36 : decode b_X_prove 36 = .ok (.ifCond .ne 21, 3) := by decide +kernel
theorem d_X_prove_39 : decode b_X_prove 39 = .ok (.aload_n 3, 1) := by decide +kernel
theorem d_X_prove_40 : decode b_X_prove 40 = .ok (.iconst 1, 1) := by decide +kernel
theorem d_X_prove_41 : decode b_X_prove 41 = .ok (.putfield 71, 3) := by decide +kernel
theorem d_X_prove_44 : decode b_X_prove 44 = .ok (.aload_n 3, 1) := by decide +kernel
theorem d_X_prove_45 : decode b_X_prove 45 = .ok (.iconst (-1), 1) := by decide +kernel
theorem d_X_prove_46 : decode b_X_prove 46 = .ok (.putfield 80, 3) := by decide +kernel
theorem d_X_prove_49 : decode b_X_prove 49 = .ok (.new 90, 3) := by decide +kernel
theorem d_X_prove_52 : decode b_X_prove 52 = .ok (.dup, 1) := by decide +kernel
theorem d_X_prove_53 : decode b_X_prove 53 = .ok (.invokespecial 92, 3) := by decide +kernel
theorem d_X_prove_56 : decode b_X_prove 56 = .ok (.athrow, 1) := by decide +kernel
theorem d_X_prove_57 : decode b_X_prove 57 = .ok (.aload_n 3, 1) := by decide +kernel
theorem d_X_prove_58 : decode b_X_prove 58 = .ok (.iconst 3, 1) := by decide +kernel
theorem d_X_prove_59 : decode b_X_prove 59 = .ok (.putfield 71, 3) := by decide +kernel
theorem d_X_prove_62 : decode b_X_prove 62 = .ok (.iconst 1, 1) := by decide +kernel
theorem d_X_prove_63 : decode b_X_prove 63 = .ok (.ireturn, 1) := by decide +kernel
theorem d_X_bind_0 : decode b_X_bind 0 = .ok (.iload_n 1, 1) := by decide +kernel
theorem d_X_bind_1 : decode b_X_bind 1 = .ok (.invokestatic 68, 3) := by decide +kernel
theorem d_X_bind_4 : decode b_X_bind 4 = .ok (.ifCond .eq 16, 3) := by decide +kernel
theorem d_X_bind_7 : decode b_X_bind 7 = .ok (.iload_n 2, 1) := by decide +kernel
theorem d_X_bind_8 : decode b_X_bind 8 = .ok (.ifCond .lt 12, 3) := by decide +kernel
theorem d_X_bind_11 : decode b_X_bind 11 = .ok (.iload_n 2, 1) := by decide +kernel
theorem d_X_bind_12 : decode b_X_bind 12 = .ok (.iconst 3, 1) := by decide +kernel
theorem d_X_bind_13 : decode b_X_bind 13 = .ok (.if_icmp .ge 7, 3) := by decide +kernel
theorem d_X_bind_16 : decode b_X_bind 16 = .ok (.iconst 1, 1) := by decide +kernel
theorem d_X_bind_17 : decode b_X_bind 17 = .ok (.goto 4, 3) := by decide +kernel
theorem d_X_bind_20 : decode b_X_bind 20 = .ok (.iconst 0, 1) := by decide +kernel
theorem d_X_bind_21 : decode b_X_bind 21 = .ok (.invokestatic 55, 3) := by decide +kernel
theorem d_X_bind_24 : decode b_X_bind 24 = .ok (.aload_n 0, 1) := by decide +kernel
theorem d_X_bind_25 : decode b_X_bind 25 = .ok (.getfield 25, 3) := by decide +kernel
theorem d_X_bind_28 : decode b_X_bind 28 = .ok (.iload_n 1, 1) := by decide +kernel
theorem d_X_bind_29 : decode b_X_bind 29 = .ok (.aaload, 1) := by decide +kernel
theorem d_X_bind_30 : decode b_X_bind 30 = .ok (.astore_n 3, 1) := by decide +kernel
theorem d_X_bind_31 : decode b_X_bind 31 = .ok (.aload_n 3, 1) := by decide +kernel
theorem d_X_bind_32 : decode b_X_bind 32 = .ok (.getfield 71, 3) := by decide +kernel
theorem d_X_bind_35 : decode b_X_bind 35 = .ok (.iconst 3, 1) := by decide +kernel
theorem d_X_bind_36 : decode b_X_bind 36 = .ok (.if_icmp .ne 7, 3) := by decide +kernel
theorem d_X_bind_39 : decode b_X_bind 39 = .ok (.iconst 1, 1) := by decide +kernel
theorem d_X_bind_40 : decode b_X_bind 40 = .ok (.goto 4, 3) := by decide +kernel
theorem d_X_bind_43 : decode b_X_bind 43 = .ok (.iconst 0, 1) := by decide +kernel
theorem d_X_bind_44 : decode b_X_bind 44 = .ok (.invokestatic 62, 3) := by decide +kernel
theorem d_X_bind_47 : decode b_X_bind 47 = .ok (.aload_n 0, 1) := by decide +kernel
theorem d_X_bind_48 : decode b_X_bind 48 = .ok (.aload_n 3, 1) := by decide +kernel
theorem d_X_bind_49 : decode b_X_bind 49 = .ok (.getfield 80, 3) := by decide +kernel
theorem d_X_bind_52 : decode b_X_bind 52 = .ok (.iload_n 2, 1) := by decide +kernel
theorem d_X_bind_53 : decode b_X_bind 53 = .ok (.invokevirtual 93, 3) := by decide +kernel
theorem d_X_bind_56 : decode b_X_bind 56 = .ok (.astore 4, 2) := by decide +kernel
theorem d_X_bind_58 : decode b_X_bind 58 = .ok (.aload 4, 2) := by decide +kernel
theorem d_X_bind_60 : decode b_X_bind 60 = .ok (.ifnull 9, 3) := by decide +kernel
theorem d_X_bind_63 : decode b_X_bind 63 = .ok (.aload_n 0, 1) := by decide +kernel
theorem d_X_bind_64 : decode b_X_bind 64 = .ok (.aload 4, 2) := by decide +kernel
theorem d_X_bind_66 : decode b_X_bind 66 = .ok (.invokevirtual 97, 3) := by decide +kernel
theorem d_X_bind_69 : decode b_X_bind 69 = .ok (.aload_n 3, 1) := by decide +kernel
theorem d_X_bind_70 : decode b_X_bind 70 = .ok (.iconst 4, 1) := by decide +kernel
theorem d_X_bind_71 : decode b_X_bind 71 = .ok (.putfield 71, 3) := by decide +kernel
theorem d_X_bind_74 : decode b_X_bind 74 = .ok (.aload_n 3, 1) := by decide +kernel
theorem d_X_bind_75 : decode b_X_bind 75 = .ok (.iload_n 2, 1) := by decide +kernel
theorem d_X_bind_76 : decode b_X_bind 76 = .ok (.putfield 101, 3) := by decide +kernel
theorem d_X_bind_79 : decode b_X_bind 79 = .ok (.aload 4, 2) := by decide +kernel
theorem d_X_bind_81 : decode b_X_bind 81 = .ok (.ifnull 7, 3) := by decide +kernel
theorem d_X_bind_84 : decode b_X_bind 84 = .ok (.iconst 1, 1) := by decide +kernel
theorem d_X_bind_85 : decode b_X_bind 85 = .ok (.goto 4, 3) := by decide +kernel
theorem d_X_bind_88 : decode b_X_bind 88 = .ok (.iconst 0, 1) := by decide +kernel
theorem d_X_bind_89 : decode b_X_bind 89 = .ok (.ireturn, 1) := by decide +kernel
theorem d_X_here_0 : decode b_X_here 0 = .ok (.iload_n 1, 1) := by decide +kernel
theorem d_X_here_1 : decode b_X_here 1 = .ok (.invokestatic 68, 3) := by decide +kernel
theorem d_X_here_4 : decode b_X_here 4 = .ok (.ifCond .eq 18, 3) := by decide +kernel
theorem d_X_here_7 : decode b_X_here 7 = .ok (.iload_n 2, 1) := by decide +kernel
theorem d_X_here_8 : decode b_X_here 8 = .ok (.bipush (-3), 2) := by decide +kernel
theorem d_X_here_10 : decode b_X_here 10 = .ok (.if_icmp .lt 12, 3) := by decide +kernel
theorem d_X_here_13 : decode b_X_here 13 = .ok (.iload_n 2, 1) := by decide +kernel
theorem d_X_here_14 : decode b_X_here 14 = .ok (.iconst 3, 1) := by decide +kernel
theorem d_X_here_15 : decode b_X_here 15 = .ok (.if_icmp .gt 7, 3) := by decide +kernel
theorem d_X_here_18 : decode b_X_here 18 = .ok (.iconst 1, 1) := by decide +kernel
theorem d_X_here_19 : decode b_X_here 19 = .ok (.goto 4, 3) := by decide +kernel
theorem d_X_here_22 : decode b_X_here 22 = .ok (.iconst 0, 1) := by decide +kernel
theorem d_X_here_23 : decode b_X_here 23 = .ok (.invokestatic 55, 3) := by decide +kernel
theorem d_X_here_26 : decode b_X_here 26 = .ok (.aload_n 0, 1) := by decide +kernel
theorem d_X_here_27 : decode b_X_here 27 = .ok (.getfield 25, 3) := by decide +kernel
theorem d_X_here_30 : decode b_X_here 30 = .ok (.iload_n 1, 1) := by decide +kernel
theorem d_X_here_31 : decode b_X_here 31 = .ok (.aaload, 1) := by decide +kernel
theorem d_X_here_32 : decode b_X_here 32 = .ok (.astore_n 3, 1) := by decide +kernel
theorem d_X_here_33 : decode b_X_here 33 = .ok (.aload_n 3, 1) := by decide +kernel
theorem d_X_here_34 : decode b_X_here 34 = .ok (.getfield 71, 3) := by decide +kernel
theorem d_X_here_37 : decode b_X_here 37 = .ok (.iconst 4, 1) := by decide +kernel
theorem d_X_here_38 : decode b_X_here 38 = .ok (.if_icmp .ne 7, 3) := by decide +kernel
theorem d_X_here_41 : decode b_X_here 41 = .ok (.iconst 1, 1) := by decide +kernel
theorem d_X_here_42 : decode b_X_here 42 = .ok (.goto 4, 3) := by decide +kernel
theorem d_X_here_45 : decode b_X_here 45 = .ok (.iconst 0, 1) := by decide +kernel
theorem d_X_here_46 : decode b_X_here 46 = .ok (.invokestatic 62, 3) := by decide +kernel
theorem d_X_here_49 : decode b_X_here 49 = .ok (.aload_n 3, 1) := by decide +kernel
theorem d_X_here_50 : decode b_X_here 50 = .ok (.getfield 104, 3) := by decide +kernel
theorem d_X_here_53 : decode b_X_here 53 = .ok (.istore 4, 2) := by decide +kernel
theorem d_X_here_55 : decode b_X_here 55 = .ok (.aload_n 3, 1) := by decide +kernel
theorem d_X_here_56 : decode b_X_here 56 = .ok (.iconst 1, 1) := by decide +kernel
theorem d_X_here_57 : decode b_X_here 57 = .ok (.putfield 104, 3) := by decide +kernel
theorem d_X_here_60 : decode b_X_here 60 = .ok (.aload_n 3, 1) := by decide +kernel
theorem d_X_here_61 : decode b_X_here 61 = .ok (.iload_n 2, 1) := by decide +kernel
theorem d_X_here_62 : decode b_X_here 62 = .ok (.putfield 107, 3) := by decide +kernel
theorem d_X_here_65 : decode b_X_here 65 = .ok (.aload_n 0, 1) := by decide +kernel
theorem d_X_here_66 : decode b_X_here 66 = .ok (.aload_n 3, 1) := by decide +kernel
theorem d_X_here_67 : decode b_X_here 67 = .ok (.iconst 2, 1) := by decide +kernel
theorem d_X_here_68 : decode b_X_here 68 = .ok (.invokevirtual 110, 3) := by decide +kernel
theorem d_X_here_71 : decode b_X_here 71 = .ok (.iload 4, 2) := by decide +kernel
theorem d_X_here_73 : decode b_X_here 73 = .ok (.ifCond .ne 17, 3) := by decide +kernel
theorem d_X_here_76 : decode b_X_here 76 = .ok (.aload_n 0, 1) := by decide +kernel
theorem d_X_here_77 : decode b_X_here 77 = .ok (.aload_n 3, 1) := by decide +kernel
theorem d_X_here_78 : decode b_X_here 78 = .ok (.invokevirtual 114, 3) := by decide +kernel
theorem d_X_here_81 : decode b_X_here 81 = .ok (.iload_n 2, 1) := by decide +kernel
theorem d_X_here_82 : decode b_X_here 82 = .ok (.ifCond .lt 8, 3) := by decide +kernel
theorem d_X_here_85 : decode b_X_here 85 = .ok (.aload_n 0, 1) := by decide +kernel
theorem d_X_here_86 : decode b_X_here 86 = .ok (.aload_n 3, 1) := by decide +kernel
theorem d_X_here_87 : decode b_X_here 87 = .ok (.invokevirtual 117, 3) := by decide +kernel
theorem d_X_here_90 : decode b_X_here 90 = .ok (.aload_n 3, 1) := by decide +kernel
theorem d_X_here_91 : decode b_X_here 91 = .ok (.getfield 74, 3) := by decide +kernel
theorem d_X_here_94 : decode b_X_here 94 = .ok (.getfield 120, 3) := by decide +kernel
theorem d_X_here_97 : decode b_X_here 97 = .ok (.ireturn, 1) := by decide +kernel
theorem d_X_gone_0 : decode b_X_gone 0 = .ok (.iload_n 1, 1) := by decide +kernel
theorem d_X_gone_1 : decode b_X_gone 1 = .ok (.invokestatic 68, 3) := by decide +kernel
theorem d_X_gone_4 : decode b_X_gone 4 = .ok (.invokestatic 55, 3) := by decide +kernel
theorem d_X_gone_7 : decode b_X_gone 7 = .ok (.aload_n 0, 1) := by decide +kernel
theorem d_X_gone_8 : decode b_X_gone 8 = .ok (.getfield 25, 3) := by decide +kernel
theorem d_X_gone_11 : decode b_X_gone 11 = .ok (.iload_n 1, 1) := by decide +kernel
theorem d_X_gone_12 : decode b_X_gone 12 = .ok (.aaload, 1) := by decide +kernel
theorem d_X_gone_13 : decode b_X_gone 13 = .ok (.astore_n 2, 1) := by decide +kernel
theorem d_X_gone_14 : decode b_X_gone 14 = .ok (.aload_n 2, 1) := by decide +kernel
theorem d_X_gone_15 : decode b_X_gone 15 = .ok (.getfield 104, 3) := by decide +kernel
theorem d_X_gone_18 : decode b_X_gone 18 = .ok (.invokestatic 62, 3) := by decide +kernel
theorem d_X_gone_21 : decode b_X_gone 21 = .ok (.aload_n 2, 1) := by decide +kernel
theorem d_X_gone_22 : decode b_X_gone 22 = .ok (.iconst 0, 1) := by decide +kernel
theorem d_X_gone_23 : decode b_X_gone 23 = .ok (.putfield 104, 3) := by decide +kernel
theorem d_X_gone_26 : decode b_X_gone 26 = .ok (.aload_n 0, 1) := by decide +kernel
theorem d_X_gone_27 : decode b_X_gone 27 = .ok (.aload_n 2, 1) := by decide +kernel
theorem d_X_gone_28 : decode b_X_gone 28 = .ok (.iconst 3, 1) := by decide +kernel
theorem d_X_gone_29 : decode b_X_gone 29 = .ok (.invokevirtual 110, 3) := by decide +kernel
theorem d_X_gone_32 : decode b_X_gone 32 = .ok (.iconst 1, 1) := by decide +kernel
theorem d_X_gone_33 : decode b_X_gone 33 = .ok (.ireturn, 1) := by decide +kernel
theorem d_X_close_0 : decode b_X_close 0 = .ok (.iload_n 1, 1) := by decide +kernel
theorem d_X_close_1 : decode b_X_close 1 = .ok (.invokestatic 68, 3) := by decide +kernel
theorem d_X_close_4 : decode b_X_close 4 = .ok (.invokestatic 55, 3) := by decide +kernel
theorem d_X_close_7 : decode b_X_close 7 = .ok (.aload_n 0, 1) := by decide +kernel
theorem d_X_close_8 : decode b_X_close 8 = .ok (.getfield 25, 3) := by decide +kernel
theorem d_X_close_11 : decode b_X_close 11 = .ok (.iload_n 1, 1) := by decide +kernel
theorem d_X_close_12 : decode b_X_close 12 = .ok (.aaload, 1) := by decide +kernel
theorem d_X_close_13 : decode b_X_close 13 = .ok (.astore_n 2, 1) := by decide +kernel
theorem d_X_close_14 : decode b_X_close 14 = .ok (.aload_n 2, 1) := by decide +kernel
theorem d_X_close_15 : decode b_X_close 15 = .ok (.getfield 71, 3) := by decide +kernel
theorem d_X_close_18 : decode b_X_close 18 = .ok (.ifCond .eq 7, 3) := by decide +kernel
theorem d_X_close_21 : decode b_X_close 21 = .ok (.iconst 1, 1) := by decide +kernel
theorem d_X_close_22 : decode b_X_close 22 = .ok (.goto 4, 3) := by decide +kernel
theorem d_X_close_25 : decode b_X_close 25 = .ok (.iconst 0, 1) := by decide +kernel
theorem d_X_close_26 : decode b_X_close 26 = .ok (.invokestatic 62, 3) := by decide +kernel
theorem d_X_close_29 : decode b_X_close 29 = .ok (.aload_n 2, 1) := by decide +kernel
theorem d_X_close_30 : decode b_X_close 30 = .ok (.getfield 71, 3) := by decide +kernel
theorem d_X_close_33 : decode b_X_close 33 = .ok (.istore_n 3, 1) := by decide +kernel
theorem d_X_close_34 : decode b_X_close 34 = .ok (.aload_n 0, 1) := by decide +kernel
theorem d_X_close_35 : decode b_X_close 35 = .ok (.aload_n 2, 1) := by decide +kernel
theorem d_X_close_36 : decode b_X_close 36 = .ok (.invokevirtual 97, 3) := by decide +kernel
theorem d_X_close_39 : decode b_X_close 39 = .ok (.iload_n 3, 1) := by decide +kernel
theorem d_X_close_40 : decode b_X_close 40 = .ok (.ireturn, 1) := by decide +kernel
theorem d_X_message_0 : decode b_X_message 0 = .ok (.iload_n 1, 1) := by decide +kernel
theorem d_X_message_1 : decode b_X_message 1 = .ok (.invokestatic 68, 3) := by decide +kernel
theorem d_X_message_4 : decode b_X_message 4 = .ok (.ifCond .eq 24, 3) := by decide +kernel
theorem d_X_message_7 : decode b_X_message 7 = .ok (.iload_n 2, 1) := by decide +kernel
theorem d_X_message_8 : decode b_X_message 8 = .ok (.invokestatic 51, 3) := by decide +kernel
theorem d_X_message_11 : decode b_X_message 11 = .ok (.ifCond .eq 17, 3) := by decide +kernel
theorem d_X_message_14 : decode b_X_message 14 = .ok (.iload_n 3, 1) := by decide +kernel
theorem d_X_message_15 : decode b_X_message 15 = .ok (.iconst (-1), 1) := by decide +kernel
theorem d_X_message_16 : decode b_X_message 16 = .ok (.if_icmp .lt 12, 3) := by decide +kernel
theorem d_X_message_19 : decode b_X_message 19 = .ok (.iload_n 3, 1) := by decide +kernel
theorem d_X_message_20 : decode b_X_message 20 = .ok (.iconst 3, 1) := by decide +kernel
theorem d_X_message_21 : decode b_X_message 21 = .ok (.if_icmp .ge 7, 3) := by decide +kernel
theorem d_X_message_24 : decode b_X_message 24 = .ok (.iconst 1, 1) := by decide +kernel
theorem d_X_message_25 : decode b_X_message 25 = .ok (.goto 4, 3) := by decide +kernel
theorem d_X_message_28 : decode b_X_message 28 = .ok (.iconst 0, 1) := by decide +kernel
theorem d_X_message_29 : decode b_X_message 29 = .ok (.invokestatic 55, 3) := by decide +kernel
theorem d_X_message_32 : decode b_X_message 32 = .ok (.aload_n 0, 1) := by decide +kernel
theorem d_X_message_33 : decode b_X_message 33 = .ok (.getfield 25, 3) := by decide +kernel
theorem d_X_message_36 : decode b_X_message 36 = .ok (.iload_n 1, 1) := by decide +kernel
theorem d_X_message_37 : decode b_X_message 37 = .ok (.aaload, 1) := by decide +kernel
theorem d_X_message_38 : decode b_X_message 38 = .ok (.astore 5, 2) := by decide +kernel
theorem d_X_message_40 : decode b_X_message 40 = .ok (.aload 5, 2) := by decide +kernel
theorem d_X_message_42 : decode b_X_message 42 = .ok (.getfield 71, 3) := by decide +kernel
theorem d_X_message_45 : decode b_X_message 45 = .ok (.iconst 4, 1) := by decide +kernel
theorem d_X_message_46 : decode b_X_message 46 = .ok (.if_icmp .ne 7, 3) := by decide +kernel
theorem d_X_message_49 : decode b_X_message 49 = .ok (.iconst 1, 1) := by decide +kernel
theorem d_X_message_50 : decode b_X_message 50 = .ok (.goto 4, 3) := by decide +kernel
theorem d_X_message_53 : decode b_X_message 53 = .ok (.iconst 0, 1) := by decide +kernel
theorem d_X_message_54 : decode b_X_message 54 = .ok (.invokestatic 62, 3) := by decide +kernel
theorem d_X_message_57 : decode b_X_message 57 = .ok (.aload_n 0, 1) := by decide +kernel
theorem d_X_message_58 : decode b_X_message 58 = .ok (.new 7, 3) := by decide +kernel
theorem d_X_message_61 : decode b_X_message 61 = .ok (.dup, 1) := by decide +kernel
theorem d_X_message_62 : decode b_X_message 62 = .ok (.iconst 1, 1) := by decide +kernel
theorem d_X_message_63 : decode b_X_message 63 = .ok (.aload 5, 2) := by decide +kernel
theorem d_X_message_65 : decode b_X_message 65 = .ok (.getfield 80, 3) := by decide +kernel
theorem d_X_message_68 : decode b_X_message 68 = .ok (.aload 5, 2) := by decide +kernel
theorem d_X_message_70 : decode b_X_message 70 = .ok (.getfield 101, 3) := by decide +kernel
theorem d_X_message_73 : decode b_X_message 73 = .ok (.iload 4, 2) := by decide +kernel
theorem d_X_message_75 : decode b_X_message 75 = .ok (.iload_n 2, 1) := by decide +kernel
theorem d_X_message_76 : decode b_X_message 76 = .ok (.iload_n 3, 1) := by decide +kernel
theorem d_X_message_77 : decode b_X_message 77 = .ok (.invokespecial 11, 3) := by decide +kernel
theorem d_X_message_80 : decode b_X_message 80 = .ok (.invokevirtual 123, 3) := by decide +kernel
theorem d_X_message_83 : decode b_X_message 83 = .ok (.iconst 1, 1) := by decide +kernel
theorem d_X_message_84 : decode b_X_message 84 = .ok (.ireturn, 1) := by decide +kernel
theorem d_X_subscribe_0 : decode b_X_subscribe 0 = .ok (.iload_n 1, 1) := by decide +kernel
theorem d_X_subscribe_1 : decode b_X_subscribe 1 = .ok (.invokestatic 68, 3) := by decide +kernel
theorem d_X_subscribe_4 : decode b_X_subscribe 4 = .ok (.ifCond .eq 25, 3) := by decide +kernel
theorem d_X_subscribe_7 : decode b_X_subscribe 7 = .ok (.iload_n 2, 1) := by decide +kernel
theorem d_X_subscribe_8 : decode b_X_subscribe 8 = .ok (.invokestatic 51, 3) := by decide +kernel
theorem d_X_subscribe_11 : decode b_X_subscribe 11 = .ok (.ifCond .eq 18, 3) := by decide +kernel
theorem d_X_subscribe_14 : decode b_X_subscribe 14 = .ok (.iload_n 3, 1) := by decide +kernel
theorem d_X_subscribe_15 : decode b_X_subscribe 15 = .ok (.iconst 4, 1) := by decide +kernel
theorem d_X_subscribe_16 : decode b_X_subscribe 16 = .ok (.if_icmp .lt 13, 3) := by decide +kernel
theorem d_X_subscribe_19 : decode b_X_subscribe 19 = .ok (.iload_n 3, 1) := by decide +kernel
theorem d_X_subscribe_20 : decode b_X_subscribe 20 = .ok (.bipush 7, 2) := by decide +kernel
theorem d_X_subscribe_22 : decode b_X_subscribe 22 = .ok (.if_icmp .gt 7, 3) := by decide +kernel
theorem d_X_subscribe_25 : decode b_X_subscribe 25 = .ok (.iconst 1, 1) := by decide +kernel
theorem d_X_subscribe_26 : decode b_X_subscribe 26 = .ok (.goto 4, 3) := by decide +kernel
theorem d_X_subscribe_29 : decode b_X_subscribe 29 = .ok (.iconst 0, 1) := by decide +kernel
theorem d_X_subscribe_30 : decode b_X_subscribe 30 = .ok (.invokestatic 55, 3) := by decide +kernel
theorem d_X_subscribe_33 : decode b_X_subscribe 33 = .ok (.aload_n 0, 1) := by decide +kernel
theorem d_X_subscribe_34 : decode b_X_subscribe 34 = .ok (.getfield 25, 3) := by decide +kernel
theorem d_X_subscribe_37 : decode b_X_subscribe 37 = .ok (.iload_n 1, 1) := by decide +kernel
theorem d_X_subscribe_38 : decode b_X_subscribe 38 = .ok (.aaload, 1) := by decide +kernel
theorem d_X_subscribe_39 : decode b_X_subscribe 39 = .ok (.astore 4, 2) := by decide +kernel
theorem d_X_subscribe_41 : decode b_X_subscribe 41 = .ok (.aload 4, 2) := by decide +kernel
theorem d_X_subscribe_43 : decode b_X_subscribe 43 = .ok (.getfield 80, 3) := by decide +kernel
theorem d_X_subscribe_46 : decode b_X_subscribe 46 = .ok (.iload_n 2, 1) := by decide +kernel
theorem d_X_subscribe_47 : decode b_X_subscribe 47 = .ok (.if_icmp .eq 7, 3) := by decide +kernel
theorem d_X_subscribe_50 : decode b_X_subscribe 50 = .ok (.iconst 1, 1) := by decide +kernel
theorem d_X_subscribe_51 : decode b_X_subscribe 51 = .ok (.goto 4, 3) := by decide +kernel
theorem d_X_subscribe_54 : decode b_X_subscribe 54 = .ok (.iconst 0, 1) := by decide +kernel
theorem d_X_subscribe_55 : decode b_X_subscribe 55 = .ok (.invokestatic 55, 3) := by decide +kernel
theorem d_X_subscribe_58 : decode b_X_subscribe 58 = .ok (.aload 4, 2) := by decide +kernel
theorem d_X_subscribe_60 : decode b_X_subscribe 60 = .ok (.getfield 71, 3) := by decide +kernel
theorem d_X_subscribe_63 : decode b_X_subscribe 63 = .ok (.iconst 4, 1) := by decide +kernel
theorem d_X_subscribe_64 : decode b_X_subscribe 64 = .ok (.if_icmp .ne 7, 3) := by decide +kernel
theorem d_X_subscribe_67 : decode b_X_subscribe 67 = .ok (.iconst 1, 1) := by decide +kernel
theorem d_X_subscribe_68 : decode b_X_subscribe 68 = .ok (.goto 4, 3) := by decide +kernel
theorem d_X_subscribe_71 : decode b_X_subscribe 71 = .ok (.iconst 0, 1) := by decide +kernel
theorem d_X_subscribe_72 : decode b_X_subscribe 72 = .ok (.invokestatic 62, 3) := by decide +kernel
theorem d_X_subscribe_75 : decode b_X_subscribe 75 = .ok (.aload_n 0, 1) := by decide +kernel
theorem d_X_subscribe_76 : decode b_X_subscribe 76 = .ok (.getfield 16, 3) := by decide +kernel
theorem d_X_subscribe_79 : decode b_X_subscribe 79 = .ok (.aload 4, 2) := by decide +kernel
theorem d_X_subscribe_81 : decode b_X_subscribe 81 = .ok (.getfield 80, 3) := by decide +kernel
theorem d_X_subscribe_84 : decode b_X_subscribe 84 = .ok (.aaload, 1) := by decide +kernel
theorem d_X_subscribe_85 : decode b_X_subscribe 85 = .ok (.astore 5, 2) := by decide +kernel
theorem d_X_subscribe_87 : decode b_X_subscribe 87 = .ok (.iload_n 3, 1) := by decide +kernel
theorem d_X_subscribe_88 : decode b_X_subscribe 88 = .ok (.iconst 5, 1) := by decide +kernel
theorem d_X_subscribe_89 : decode b_X_subscribe 89 = .ok (.if_icmp .ne 16, 3) := by decide +kernel
theorem d_X_subscribe_92 : decode b_X_subscribe 92 = .ok (.aload 5, 2) := by decide +kernel
theorem d_X_subscribe_94 : decode b_X_subscribe 94 = .ok (.iload_n 2, 1) := by decide +kernel
theorem d_X_subscribe_95 : decode b_X_subscribe 95 = .ok (.bipush 8, 2) := by decide +kernel
theorem d_X_subscribe_97 : decode b_X_subscribe 97 = .ok (.invokevirtual 126, 3) := by decide +kernel
theorem d_X_subscribe_100 : decode b_X_subscribe 100 = .ok (.ifCond .ne 5, 3) := by decide +kernel
theorem d_X_subscribe_103 : decode b_X_subscribe 103 = .ok (.iconst 0, 1) := by decide +kernel
theorem d_X_subscribe_104 : decode b_X_subscribe 104 = .ok (.ireturn, 1) := by decide +kernel
theorem d_X_subscribe_105 : decode b_X_subscribe 105 = .ok (.iload_n 3, 1) := by decide +kernel
theorem d_X_subscribe_106 : decode b_X_subscribe 106 = .ok (.bipush 7, 2) := by decide +kernel
theorem d_X_subscribe_108 : decode b_X_subscribe 108 = .ok (.if_icmp .ne 24, 3) := by decide +kernel
theorem d_X_subscribe_111 : decode b_X_subscribe 111 = .ok (.aload 5, 2) := by decide +kernel
theorem d_X_subscribe_113 : decode b_X_subscribe 113 = .ok (.iload_n 2, 1) := by decide +kernel
theorem d_X_subscribe_114 : decode b_X_subscribe 114 = .ok (.iconst 2, 1) := by decide +kernel
theorem d_X_subscribe_115 : decode b_X_subscribe 115 = .ok (.invokevirtual 126, 3) := by decide +kernel
theorem d_X_subscribe_118 : decode b_X_subscribe 118 = .ok (.ifCond .eq 14, 3) := by decide +kernel
theorem d_X_subscribe_121 : decode b_X_subscribe 121 = .ok (.aload_n 0, 1) := by decide +kernel
theorem d_X_subscribe_122 : decode b_X_subscribe 122 = .ok (.aload 4, 2) := by decide +kernel
theorem d_X_subscribe_124 : decode b_X_subscribe 124 = .ok (.getfield 80, 3) := by decide +kernel
theorem d_X_subscribe_127 : decode b_X_subscribe 127 = .ok (.iload_n 2, 1) := by decide +kernel
theorem d_X_subscribe_128 : decode b_X_subscribe 128 = .ok (.iconst 3, 1) := by decide +kernel
theorem d_X_subscribe_129 : decode b_X_subscribe 129 = .ok (.invokevirtual 130, 3) := by decide +kernel
theorem d_X_subscribe_132 : decode b_X_subscribe 132 = .ok (.aload 5, 2) := by decide +kernel
theorem d_X_subscribe_134 : decode b_X_subscribe 134 = .ok (.iload_n 2, 1) := by decide +kernel
theorem d_X_subscribe_135 : decode b_X_subscribe 135 = .ok (.iload_n 3, 1) := by decide +kernel
theorem d_X_subscribe_136 : decode b_X_subscribe 136 = .ok (.invokestatic 134, 3) := by decide +kernel
theorem d_X_subscribe_139 : decode b_X_subscribe 139 = .ok (.aload_n 0, 1) := by decide +kernel
theorem d_X_subscribe_140 : decode b_X_subscribe 140 = .ok (.new 7, 3) := by decide +kernel
theorem d_X_subscribe_143 : decode b_X_subscribe 143 = .ok (.dup, 1) := by decide +kernel
theorem d_X_subscribe_144 : decode b_X_subscribe 144 = .ok (.iload_n 3, 1) := by decide +kernel
theorem d_X_subscribe_145 : decode b_X_subscribe 145 = .ok (.aload 4, 2) := by decide +kernel
theorem d_X_subscribe_147 : decode b_X_subscribe 147 = .ok (.getfield 80, 3) := by decide +kernel
theorem d_X_subscribe_150 : decode b_X_subscribe 150 = .ok (.iconst (-1), 1) := by decide +kernel
theorem d_X_subscribe_151 : decode b_X_subscribe 151 = .ok (.iconst 0, 1) := by decide +kernel
theorem d_X_subscribe_152 : decode b_X_subscribe 152 = .ok (.iload_n 2, 1) := by decide +kernel
theorem d_X_subscribe_153 : decode b_X_subscribe 153 = .ok (.iconst (-1), 1) := by decide +kernel
theorem d_X_subscribe_154 : decode b_X_subscribe 154 = .ok (.invokespecial 11, 3) := by decide +kernel
theorem d_X_subscribe_157 : decode b_X_subscribe 157 = .ok (.invokevirtual 123, 3) := by decide +kernel
theorem d_X_subscribe_160 : decode b_X_subscribe 160 = .ok (.iload_n 3, 1) := by decide +kernel
theorem d_X_subscribe_161 : decode b_X_subscribe 161 = .ok (.iconst 5, 1) := by decide +kernel
theorem d_X_subscribe_162 : decode b_X_subscribe 162 = .ok (.if_icmp .ne 14, 3) := by decide +kernel
theorem d_X_subscribe_165 : decode b_X_subscribe 165 = .ok (.aload_n 0, 1) := by decide +kernel
theorem d_X_subscribe_166 : decode b_X_subscribe 166 = .ok (.aload 4, 2) := by decide +kernel
theorem d_X_subscribe_168 : decode b_X_subscribe 168 = .ok (.getfield 80, 3) := by decide +kernel
theorem d_X_subscribe_171 : decode b_X_subscribe 171 = .ok (.iload_n 2, 1) := by decide +kernel
theorem d_X_subscribe_172 : decode b_X_subscribe 172 = .ok (.iconst 2, 1) := by decide +kernel
theorem d_X_subscribe_173 : decode b_X_subscribe 173 = .ok (.invokevirtual 130, 3) := by decide +kernel
theorem d_X_subscribe_176 : decode b_X_subscribe 176 = .ok (.iconst 1, 1) := by decide +kernel
theorem d_X_subscribe_177 : decode b_X_subscribe 177 = .ok (.ireturn, 1) := by decide +kernel
theorem d_X_link_0 : decode b_X_link 0 = .ok (.aload_n 0, 1) := by decide +kernel
theorem d_X_link_1 : decode b_X_link 1 = .ok (.iload_n 1, 1) := by decide +kernel
theorem d_X_link_2 : decode b_X_link 2 = .ok (.putfield 39, 3) := by decide +kernel
theorem d_X_link_5 : decode b_X_link 5 = .ok (.iload_n 1, 1) := by decide +kernel
theorem d_X_link_6 : decode b_X_link 6 = .ok (.ifCond .ne 5, 3) := by decide +kernel
theorem d_X_link_9 : decode b_X_link 9 = .ok (.iconst 0, 1) := by decide +kernel
theorem d_X_link_10 : decode b_X_link 10 = .ok (.ireturn, 1) := by decide +kernel
theorem d_X_link_11 : decode b_X_link 11 = .ok (.aload_n 0, 1) := by decide +kernel
theorem d_X_link_12 : decode b_X_link 12 = .ok (.getfield 35, 3) := by decide +kernel
theorem d_X_link_15 : decode b_X_link 15 = .ok (.getfield 120, 3) := by decide +kernel
theorem d_X_link_18 : decode b_X_link 18 = .ok (.istore_n 2, 1) := by decide +kernel
theorem d_X_link_19 : decode b_X_link 19 = .ok (.iconst 0, 1) := by decide +kernel
theorem d_X_link_20 : decode b_X_link 20 = .ok (.istore_n 3, 1) := by decide +kernel
theorem d_X_link_21 : decode b_X_link 21 = .ok (.iload_n 3, 1) := by decide +kernel
theorem d_X_link_22 : decode b_X_link 22 = .ok (.iload_n 2, 1) := by decide +kernel
theorem d_X_link_23 : decode b_X_link 23 = .ok (.if_icmp .ge 20, 3) := by decide +kernel
theorem d_X_link_26 : decode b_X_link 26 = .ok (.aload_n 0, 1) := by decide +kernel
theorem d_X_link_27 : decode b_X_link 27 = .ok (.aload_n 0, 1) := by decide +kernel
theorem d_X_link_28 : decode b_X_link 28 = .ok (.getfield 35, 3) := by decide +kernel
theorem d_X_link_31 : decode b_X_link 31 = .ok (.invokevirtual 138, 3) := by decide +kernel
theorem d_X_link_34 : decode b_X_link 34 = .ok (.invokevirtual 142, 3) := by decide +kernel
theorem d_X_link_37 : decode b_X_link 37 = .ok (.iinc 3 1, 3) := by decide +kernel
theorem d_X_link_40 : decode b_X_link 40 = .ok (.goto (-19), 3) := by decide +kernel
theorem d_X_link_43 : decode b_X_link 43 = .ok (.iload_n 2, 1) := by decide +kernel
theorem d_X_link_44 : decode b_X_link 44 = .ok (.ireturn, 1) := by decide +kernel
theorem d_X_take_0 : decode b_X_take 0 = .ok (.iload_n 1, 1) := by decide +kernel
theorem d_X_take_1 : decode b_X_take 1 = .ok (.invokestatic 68, 3) := by decide +kernel
theorem d_X_take_4 : decode b_X_take 4 = .ok (.invokestatic 55, 3) := by decide +kernel
theorem d_X_take_7 : decode b_X_take 7 = .ok (.aload_n 0, 1) := by decide +kernel
theorem d_X_take_8 : decode b_X_take 8 = .ok (.getfield 25, 3) := by decide +kernel
theorem d_X_take_11 : decode b_X_take 11 = .ok (.iload_n 1, 1) := by decide +kernel
theorem d_X_take_12 : decode b_X_take 12 = .ok (.aaload, 1) := by decide +kernel
theorem d_X_take_13 : decode b_X_take 13 = .ok (.getfield 74, 3) := by decide +kernel
theorem d_X_take_16 : decode b_X_take 16 = .ok (.astore_n 2, 1) := by decide +kernel
theorem d_X_take_17 : decode b_X_take 17 = .ok (.aload_n 2, 1) := by decide +kernel
theorem d_X_take_18 : decode b_X_take 18 = .ok (.getfield 120, 3) := by decide +kernel
theorem d_X_take_21 : decode b_X_take 21 = .ok (.ifCond .ne 11, 3) := by decide +kernel
theorem d_X_take_24 : decode b_X_take 24 = .ok (.new 145, 3) := by decide +kernel
theorem d_X_take_27 : decode b_X_take 27 = .ok (.dup, 1) := by decide +kernel
theorem d_X_take_28 : decode b_X_take 28 = .ok (.invokespecial 147, 3) := by decide +kernel
theorem d_X_take_31 : decode b_X_take 31 = .ok (.athrow, 1) := by decide +kernel
theorem d_X_take_32 : decode b_X_take 32 = .ok (.aload_n 2, 1) := by decide +kernel
theorem d_X_take_33 : decode b_X_take 33 = .ok (.invokevirtual 138, 3) := by decide +kernel
theorem d_X_take_36 : decode b_X_take 36 = .ok (.astore_n 3, 1) := by decide +kernel
theorem d_X_take_37 : decode b_X_take 37 = .ok (.aload_n 0, 1) := by decide +kernel
theorem d_X_take_38 : decode b_X_take 38 = .ok (.aload_n 3, 1) := by decide +kernel
theorem d_X_take_39 : decode b_X_take 39 = .ok (.putfield 47, 3) := by decide +kernel
theorem d_X_take_42 : decode b_X_take 42 = .ok (.aload_n 3, 1) := by decide +kernel
theorem d_X_take_43 : decode b_X_take 43 = .ok (.getfield 148, 3) := by decide +kernel
theorem d_X_take_46 : decode b_X_take 46 = .ok (.ireturn, 1) := by decide +kernel
theorem d_X_taken_0 : decode b_X_taken 0 = .ok (.aload_n 0, 1) := by decide +kernel
theorem d_X_taken_1 : decode b_X_taken 1 = .ok (.getfield 47, 3) := by decide +kernel
theorem d_X_taken_4 : decode b_X_taken 4 = .ok (.astore_n 2, 1) := by decide +kernel
theorem d_X_taken_5 : decode b_X_taken 5 = .ok (.aload_n 2, 1) := by decide +kernel
theorem d_X_taken_6 : decode b_X_taken 6 = .ok (.ifnonnull 11, 3) := by decide +kernel
theorem d_X_taken_9 : decode b_X_taken 9 = .ok (.new 145, 3) := by decide +kernel
theorem d_X_taken_12 : decode b_X_taken 12 = .ok (.dup, 1) := by decide +kernel
theorem d_X_taken_13 : decode b_X_taken 13 = .ok (.invokespecial 147, 3) := by decide +kernel
theorem d_X_taken_16 : decode b_X_taken 16 = .ok (.athrow, 1) := by decide +kernel
theorem d_X_taken_17 : decode b_X_taken 17 = .ok (.iload_n 1, 1) := by decide +kernel
theorem d_X_taken_18 : decode b_X_taken 18 = .ok (.tableswitch 41 0 2 #[26, 31, 36], 26) := by decide +kernel
theorem d_X_taken_44 : decode b_X_taken 44 = .ok (.aload_n 2, 1) := by decide +kernel
theorem d_X_taken_45 : decode b_X_taken 45 = .ok (.getfield 151, 3) := by decide +kernel
theorem d_X_taken_48 : decode b_X_taken 48 = .ok (.ireturn, 1) := by decide +kernel
theorem d_X_taken_49 : decode b_X_taken 49 = .ok (.aload_n 2, 1) := by decide +kernel
theorem d_X_taken_50 : decode b_X_taken 50 = .ok (.getfield 154, 3) := by decide +kernel
end
section
theorem d_X_taken_53 : decode b_X_taken 53 = .ok (.ireturn, 1) := by decide +kernel
theorem d_X_taken_54 : decode b_X_taken 54 = .ok (.aload_n 2, 1) := by decide +kernel
theorem d_X_taken_55 : decode b_X_taken 55 = .ok (.getfield 155, 3) := by decide +kernel
theorem d_X_taken_58 : decode b_X_taken 58 = .ok (.ireturn, 1) := by decide +kernel
theorem d_X_taken_59 : decode b_X_taken 59 = .ok (.new 158, 3) := by decide +kernel
theorem d_X_taken_62 : decode b_X_taken 62 = .ok (.dup, 1) := by decide +kernel
theorem d_X_taken_63 : decode b_X_taken 63 = .ok (.invokespecial 160, 3) := by decide +kernel
theorem d_X_taken_66 : decode b_X_taken 66 = .ok (.athrow, 1) := by decide +kernel
theorem d_X_roster_0 : decode b_X_roster 0 = .ok (.iload_n 1, 1) := by decide +kernel
theorem d_X_roster_1 : decode b_X_roster 1 = .ok (.invokestatic 51, 3) := by decide +kernel
theorem d_X_roster_4 : decode b_X_roster 4 = .ok (.ifCond .eq 14, 3) := by decide +kernel
theorem d_X_roster_7 : decode b_X_roster 7 = .ok (.iload_n 2, 1) := by decide +kernel
theorem d_X_roster_8 : decode b_X_roster 8 = .ok (.invokestatic 51, 3) := by decide +kernel
theorem d_X_roster_11 : decode b_X_roster 11 = .ok (.ifCond .eq 7, 3) := by decide +kernel
theorem d_X_roster_14 : decode b_X_roster 14 = .ok (.iconst 1, 1) := by decide +kernel
theorem d_X_roster_15 : decode b_X_roster 15 = .ok (.goto 4, 3) := by decide +kernel
theorem d_X_roster_18 : decode b_X_roster 18 = .ok (.iconst 0, 1) := by decide +kernel
theorem d_X_roster_19 : decode b_X_roster 19 = .ok (.invokestatic 55, 3) := by decide +kernel
theorem d_X_roster_22 : decode b_X_roster 22 = .ok (.aload_n 0, 1) := by decide +kernel
theorem d_X_roster_23 : decode b_X_roster 23 = .ok (.getfield 16, 3) := by decide +kernel
theorem d_X_roster_26 : decode b_X_roster 26 = .ok (.iload_n 1, 1) := by decide +kernel
theorem d_X_roster_27 : decode b_X_roster 27 = .ok (.aaload, 1) := by decide +kernel
theorem d_X_roster_28 : decode b_X_roster 28 = .ok (.getfield 161, 3) := by decide +kernel
theorem d_X_roster_31 : decode b_X_roster 31 = .ok (.iload_n 2, 1) := by decide +kernel
theorem d_X_roster_32 : decode b_X_roster 32 = .ok (.iaload, 1) := by decide +kernel
theorem d_X_roster_33 : decode b_X_roster 33 = .ok (.ireturn, 1) := by decide +kernel
theorem d_X_connection_0 : decode b_X_connection 0 = .ok (.iload_n 1, 1) := by decide +kernel
theorem d_X_connection_1 : decode b_X_connection 1 = .ok (.invokestatic 68, 3) := by decide +kernel
theorem d_X_connection_4 : decode b_X_connection 4 = .ok (.invokestatic 55, 3) := by decide +kernel
theorem d_X_connection_7 : decode b_X_connection 7 = .ok (.aload_n 0, 1) := by decide +kernel
theorem d_X_connection_8 : decode b_X_connection 8 = .ok (.getfield 25, 3) := by decide +kernel
theorem d_X_connection_11 : decode b_X_connection 11 = .ok (.iload_n 1, 1) := by decide +kernel
theorem d_X_connection_12 : decode b_X_connection 12 = .ok (.aaload, 1) := by decide +kernel
theorem d_X_connection_13 : decode b_X_connection 13 = .ok (.astore_n 3, 1) := by decide +kernel
theorem d_X_connection_14 : decode b_X_connection 14 = .ok (.iload_n 2, 1) := by decide +kernel
theorem d_X_connection_15 : decode b_X_connection 15 = .ok (.tableswitch 69 0 4 #[33, 38, 43, 48, 61], 33) := by decide +kernel
theorem d_X_connection_48 : decode b_X_connection 48 = .ok (.aload_n 3, 1) := by decide +kernel
theorem d_X_connection_49 : decode b_X_connection 49 = .ok (.getfield 71, 3) := by decide +kernel
theorem d_X_connection_52 : decode b_X_connection 52 = .ok (.ireturn, 1) := by decide +kernel
theorem d_X_connection_53 : decode b_X_connection 53 = .ok (.aload_n 3, 1) := by decide +kernel
theorem d_X_connection_54 : decode b_X_connection 54 = .ok (.getfield 80, 3) := by decide +kernel
theorem d_X_connection_57 : decode b_X_connection 57 = .ok (.ireturn, 1) := by decide +kernel
theorem d_X_connection_58 : decode b_X_connection 58 = .ok (.aload_n 3, 1) := by decide +kernel
theorem d_X_connection_59 : decode b_X_connection 59 = .ok (.getfield 101, 3) := by decide +kernel
theorem d_X_connection_62 : decode b_X_connection 62 = .ok (.ireturn, 1) := by decide +kernel
theorem d_X_connection_63 : decode b_X_connection 63 = .ok (.aload_n 3, 1) := by decide +kernel
theorem d_X_connection_64 : decode b_X_connection 64 = .ok (.getfield 104, 3) := by decide +kernel
theorem d_X_connection_67 : decode b_X_connection 67 = .ok (.ifCond .eq 7, 3) := by decide +kernel
theorem d_X_connection_70 : decode b_X_connection 70 = .ok (.iconst 1, 1) := by decide +kernel
theorem d_X_connection_71 : decode b_X_connection 71 = .ok (.goto 4, 3) := by decide +kernel
theorem d_X_connection_74 : decode b_X_connection 74 = .ok (.iconst 0, 1) := by decide +kernel
theorem d_X_connection_75 : decode b_X_connection 75 = .ok (.ireturn, 1) := by decide +kernel
theorem d_X_connection_76 : decode b_X_connection 76 = .ok (.aload_n 3, 1) := by decide +kernel
theorem d_X_connection_77 : decode b_X_connection 77 = .ok (.getfield 74, 3) := by decide +kernel
theorem d_X_connection_80 : decode b_X_connection 80 = .ok (.getfield 120, 3) := by decide +kernel
theorem d_X_connection_83 : decode b_X_connection 83 = .ok (.ireturn, 1) := by decide +kernel
theorem d_X_connection_84 : decode b_X_connection 84 = .ok (.new 158, 3) := by decide +kernel
theorem d_X_connection_87 : decode b_X_connection 87 = .ok (.dup, 1) := by decide +kernel
theorem d_X_connection_88 : decode b_X_connection 88 = .ok (.invokespecial 160, 3) := by decide +kernel
theorem d_X_connection_91 : decode b_X_connection 91 = .ok (.athrow, 1) := by decide +kernel
theorem d_X_count_0 : decode b_X_count 0 = .ok (.iload_n 1, 1) := by decide +kernel
theorem d_X_count_1 : decode b_X_count 1 = .ok (.tableswitch 62 0 3 #[31, 36, 44, 49], 31) := by decide +kernel
theorem d_X_count_32 : decode b_X_count 32 = .ok (.aload_n 0, 1) := by decide +kernel
theorem d_X_count_33 : decode b_X_count 33 = .ok (.invokevirtual 165, 3) := by decide +kernel
theorem d_X_count_36 : decode b_X_count 36 = .ok (.ireturn, 1) := by decide +kernel
theorem d_X_count_37 : decode b_X_count 37 = .ok (.aload_n 0, 1) := by decide +kernel
theorem d_X_count_38 : decode b_X_count 38 = .ok (.getfield 35, 3) := by decide +kernel
theorem d_X_count_41 : decode b_X_count 41 = .ok (.getfield 120, 3) := by decide +kernel
theorem d_X_count_44 : decode b_X_count 44 = .ok (.ireturn, 1) := by decide +kernel
theorem d_X_count_45 : decode b_X_count 45 = .ok (.aload_n 0, 1) := by decide +kernel
theorem d_X_count_46 : decode b_X_count 46 = .ok (.invokevirtual 169, 3) := by decide +kernel
theorem d_X_count_49 : decode b_X_count 49 = .ok (.ireturn, 1) := by decide +kernel
theorem d_X_count_50 : decode b_X_count 50 = .ok (.aload_n 0, 1) := by decide +kernel
theorem d_X_count_51 : decode b_X_count 51 = .ok (.getfield 39, 3) := by decide +kernel
theorem d_X_count_54 : decode b_X_count 54 = .ok (.ifCond .eq 7, 3) := by decide +kernel
theorem d_X_count_57 : decode b_X_count 57 = .ok (.iconst 1, 1) := by decide +kernel
theorem d_X_count_58 : decode b_X_count 58 = .ok (.goto 4, 3) := by decide +kernel
theorem d_X_count_61 : decode b_X_count 61 = .ok (.iconst 0, 1) := by decide +kernel
theorem d_X_count_62 : decode b_X_count 62 = .ok (.ireturn, 1) := by decide +kernel
theorem d_X_count_63 : decode b_X_count 63 = .ok (.iload_n 1, 1) := by decide +kernel
theorem d_X_count_64 : decode b_X_count 64 = .ok (.iconst 4, 1) := by decide +kernel
theorem d_X_count_65 : decode b_X_count 65 = .ok (.if_icmp .lt 13, 3) := by decide +kernel
theorem d_X_count_68 : decode b_X_count 68 = .ok (.iload_n 1, 1) := by decide +kernel
theorem d_X_count_69 : decode b_X_count 69 = .ok (.bipush 12, 2) := by decide +kernel
theorem d_X_count_71 : decode b_X_count 71 = .ok (.if_icmp .ge 7, 3) := by decide +kernel
theorem d_X_count_74 : decode b_X_count 74 = .ok (.iconst 1, 1) := by decide +kernel
theorem d_X_count_75 : decode b_X_count 75 = .ok (.goto 4, 3) := by decide +kernel
theorem d_X_count_78 : decode b_X_count 78 = .ok (.iconst 0, 1) := by decide +kernel
theorem d_X_count_79 : decode b_X_count 79 = .ok (.invokestatic 55, 3) := by decide +kernel
theorem d_X_count_82 : decode b_X_count 82 = .ok (.aload_n 0, 1) := by decide +kernel
theorem d_X_count_83 : decode b_X_count 83 = .ok (.getfield 16, 3) := by decide +kernel
theorem d_X_count_86 : decode b_X_count 86 = .ok (.iload_n 1, 1) := by decide +kernel
theorem d_X_count_87 : decode b_X_count 87 = .ok (.iconst 4, 1) := by decide +kernel
theorem d_X_count_88 : decode b_X_count 88 = .ok (.isub, 1) := by decide +kernel
theorem d_X_count_89 : decode b_X_count 89 = .ok (.aaload, 1) := by decide +kernel
theorem d_X_count_90 : decode b_X_count 90 = .ok (.getfield 172, 3) := by decide +kernel
theorem d_X_count_93 : decode b_X_count 93 = .ok (.getfield 120, 3) := by decide +kernel
theorem d_X_count_96 : decode b_X_count 96 = .ok (.ireturn, 1) := by decide +kernel
theorem d_X_checkArgument_0 : decode b_X_checkArgument 0 = .ok (.iload_n 0, 1) := by decide +kernel
theorem d_X_checkArgument_1 : decode b_X_checkArgument 1 = .ok (.ifCond .ne 11, 3) := by decide +kernel
theorem d_X_checkArgument_4 : decode b_X_checkArgument 4 = .ok (.new 158, 3) := by decide +kernel
theorem d_X_checkArgument_7 : decode b_X_checkArgument 7 = .ok (.dup, 1) := by decide +kernel
theorem d_X_checkArgument_8 : decode b_X_checkArgument 8 = .ok (.invokespecial 160, 3) := by decide +kernel
theorem d_X_checkArgument_11 : decode b_X_checkArgument 11 = .ok (.athrow, 1) := by decide +kernel
theorem d_X_checkArgument_12 : decode b_X_checkArgument 12 = .ok (.return_, 1) := by decide +kernel
theorem d_X_checkState_0 : decode b_X_checkState 0 = .ok (.iload_n 0, 1) := by decide +kernel
theorem d_X_checkState_1 : decode b_X_checkState 1 = .ok (.ifCond .ne 11, 3) := by decide +kernel
theorem d_X_checkState_4 : decode b_X_checkState 4 = .ok (.new 175, 3) := by decide +kernel
theorem d_X_checkState_7 : decode b_X_checkState 7 = .ok (.dup, 1) := by decide +kernel
theorem d_X_checkState_8 : decode b_X_checkState 8 = .ok (.invokespecial 177, 3) := by decide +kernel
theorem d_X_checkState_11 : decode b_X_checkState 11 = .ok (.athrow, 1) := by decide +kernel
theorem d_X_checkState_12 : decode b_X_checkState 12 = .ok (.return_, 1) := by decide +kernel
theorem d_X_isAccount_0 : decode b_X_isAccount 0 = .ok (.iload_n 0, 1) := by decide +kernel
theorem d_X_isAccount_1 : decode b_X_isAccount 1 = .ok (.ifCond .lt 13, 3) := by decide +kernel
theorem d_X_isAccount_4 : decode b_X_isAccount 4 = .ok (.iload_n 0, 1) := by decide +kernel
theorem d_X_isAccount_5 : decode b_X_isAccount 5 = .ok (.bipush 8, 2) := by decide +kernel
theorem d_X_isAccount_7 : decode b_X_isAccount 7 = .ok (.if_icmp .ge 7, 3) := by decide +kernel
theorem d_X_isAccount_10 : decode b_X_isAccount 10 = .ok (.iconst 1, 1) := by decide +kernel
theorem d_X_isAccount_11 : decode b_X_isAccount 11 = .ok (.goto 4, 3) := by decide +kernel
theorem d_X_isAccount_14 : decode b_X_isAccount 14 = .ok (.iconst 0, 1) := by decide +kernel
theorem d_X_isAccount_15 : decode b_X_isAccount 15 = .ok (.ireturn, 1) := by decide +kernel
theorem d_X_isConnection_0 : decode b_X_isConnection 0 = .ok (.iload_n 0, 1) := by decide +kernel
theorem d_X_isConnection_1 : decode b_X_isConnection 1 = .ok (.ifCond .lt 13, 3) := by decide +kernel
theorem d_X_isConnection_4 : decode b_X_isConnection 4 = .ok (.iload_n 0, 1) := by decide +kernel
theorem d_X_isConnection_5 : decode b_X_isConnection 5 = .ok (.bipush 6, 2) := by decide +kernel
theorem d_X_isConnection_7 : decode b_X_isConnection 7 = .ok (.if_icmp .ge 7, 3) := by decide +kernel
theorem d_X_isConnection_10 : decode b_X_isConnection 10 = .ok (.iconst 1, 1) := by decide +kernel
theorem d_X_isConnection_11 : decode b_X_isConnection 11 = .ok (.goto 4, 3) := by decide +kernel
theorem d_X_isConnection_14 : decode b_X_isConnection 14 = .ok (.iconst 0, 1) := by decide +kernel
theorem d_X_isConnection_15 : decode b_X_isConnection 15 = .ok (.ireturn, 1) := by decide +kernel
theorem d_X_onOneServer_0 : decode b_X_onOneServer 0 = .ok (.iload_n 0, 1) := by decide +kernel
theorem d_X_onOneServer_1 : decode b_X_onOneServer 1 = .ok (.iconst 4, 1) := by decide +kernel
theorem d_X_onOneServer_2 : decode b_X_onOneServer 2 = .ok (.if_icmp .ge 7, 3) := by decide +kernel
theorem d_X_onOneServer_5 : decode b_X_onOneServer 5 = .ok (.iconst 1, 1) := by decide +kernel
theorem d_X_onOneServer_6 : decode b_X_onOneServer 6 = .ok (.goto 4, 3) := by decide +kernel
theorem d_X_onOneServer_9 : decode b_X_onOneServer 9 = .ok (.iconst 0, 1) := by decide +kernel
theorem d_X_onOneServer_10 : decode b_X_onOneServer 10 = .ok (.iload_n 1, 1) := by decide +kernel
theorem d_X_onOneServer_11 : decode b_X_onOneServer 11 = .ok (.iconst 4, 1) := by decide +kernel
theorem d_X_onOneServer_12 : decode b_X_onOneServer 12 = .ok (.if_icmp .ge 7, 3) := by decide +kernel
theorem d_X_onOneServer_15 : decode b_X_onOneServer 15 = .ok (.iconst 1, 1) := by decide +kernel
theorem d_X_onOneServer_16 : decode b_X_onOneServer 16 = .ok (.goto 4, 3) := by decide +kernel
theorem d_X_onOneServer_19 : decode b_X_onOneServer 19 = .ok (.iconst 0, 1) := by decide +kernel
theorem d_X_onOneServer_20 : decode b_X_onOneServer 20 = .ok (.if_icmp .ne 7, 3) := by decide +kernel
theorem d_X_onOneServer_23 : decode b_X_onOneServer 23 = .ok (.iconst 1, 1) := by decide +kernel
theorem d_X_onOneServer_24 : decode b_X_onOneServer 24 = .ok (.goto 4, 3) := by decide +kernel
theorem d_X_onOneServer_27 : decode b_X_onOneServer 27 = .ok (.iconst 0, 1) := by decide +kernel
theorem d_X_onOneServer_28 : decode b_X_onOneServer 28 = .ok (.ireturn, 1) := by decide +kernel
theorem d_X_canReach_0 : decode b_X_canReach 0 = .ok (.aload_n 0, 1) := by decide +kernel
theorem d_X_canReach_1 : decode b_X_canReach 1 = .ok (.getfield 39, 3) := by decide +kernel
theorem d_X_canReach_4 : decode b_X_canReach 4 = .ok (.ifCond .ne 11, 3) := by decide +kernel
theorem d_X_canReach_7 : decode b_X_canReach 7 = .ok (.iload_n 1, 1) := by decide +kernel
theorem d_X_canReach_8 : decode b_X_canReach 8 = .ok (.iload_n 2, 1) := by decide +kernel
theorem d_X_canReach_9 : decode b_X_canReach 9 = .ok (.invokestatic 178, 3) := by decide +kernel
theorem d_X_canReach_12 : decode b_X_canReach 12 = .ok (.ifCond .eq 7, 3) := by decide +kernel
theorem d_X_canReach_15 : decode b_X_canReach 15 = .ok (.iconst 1, 1) := by decide +kernel
theorem d_X_canReach_16 : decode b_X_canReach 16 = .ok (.goto 4, 3) := by decide +kernel
theorem d_X_canReach_19 : decode b_X_canReach 19 = .ok (.iconst 0, 1) := by decide +kernel
theorem d_X_canReach_20 : decode b_X_canReach 20 = .ok (.ireturn, 1) := by decide +kernel
theorem d_X_isRightProof_0 : decode b_X_isRightProof 0 = .ok (.aload_n 0, 1) := by decide +kernel
theorem d_X_isRightProof_1 : decode b_X_isRightProof 1 = .ok (.getfield 16, 3) := by decide +kernel
theorem d_X_isRightProof_4 : decode b_X_isRightProof 4 = .ok (.aload_n 1, 1) := by decide +kernel
theorem d_X_isRightProof_5 : decode b_X_isRightProof 5 = .ok (.getfield 80, 3) := by decide +kernel
theorem d_X_isRightProof_8 : decode b_X_isRightProof 8 = .ok (.aaload, 1) := by decide +kernel
theorem d_X_isRightProof_9 : decode b_X_isRightProof 9 = .ok (.astore_n 3, 1) := by decide +kernel
theorem d_X_isRightProof_10 : decode b_X_isRightProof 10 = .ok (.aload_n 3, 1) := by decide +kernel
theorem d_X_isRightProof_11 : decode b_X_isRightProof 11 = .ok (.getfield 59, 3) := by decide +kernel
theorem d_X_isRightProof_14 : decode b_X_isRightProof 14 = .ok (.ifCond .eq 27, 3) := by decide +kernel
theorem d_X_isRightProof_17 : decode b_X_isRightProof 17 = .ok (.iload_n 2, 1) := by decide +kernel
theorem d_X_isRightProof_18 : decode b_X_isRightProof 18 = .ok (.aload_n 3, 1) := by decide +kernel
theorem d_X_isRightProof_19 : decode b_X_isRightProof 19 = .ok (.getfield 65, 3) := by decide +kernel
theorem d_X_isRightProof_22 : decode b_X_isRightProof 22 = .ok (.bipush 31, 2) := by decide +kernel
theorem d_X_isRightProof_24 : decode b_X_isRightProof 24 = .ok (.imul, 1) := by decide +kernel
theorem d_X_isRightProof_25 : decode b_X_isRightProof 25 = .ok (.aload_n 1, 1) := by decide +kernel
theorem d_X_isRightProof_26 : decode b_X_isRightProof 26 = .ok (.getfield 83, 3) := by decide +kernel
theorem d_X_isRightProof_29 : decode b_X_isRightProof 29 = .ok (.iadd, 1) := by decide +kernel
theorem d_X_isRightProof_30 : decode b_X_isRightProof 30 = .ok (.sipush 10007, 3) := by decide +kernel
theorem d_X_isRightProof_33 : decode b_X_isRightProof 33 = .ok (.irem, 1) := by decide +kernel
theorem d_X_isRightProof_34 : decode b_X_isRightProof 34 = .ok (.if_icmp .ne 7, 3) := by decide +kernel
theorem d_X_isRightProof_37 : decode b_X_isRightProof 37 = .ok (.iconst 1, 1) := by decide +kernel
theorem d_X_isRightProof_38 : decode b_X_isRightProof 38 = .ok (.goto 4, 3) := by decide +kernel
theorem d_X_isRightProof_41 : decode b_X_isRightProof 41 = .ok (.iconst 0, 1) := by decide +kernel
theorem d_X_isRightProof_42 : decode b_X_isRightProof 42 = .ok (.ireturn, 1) := by decide +kernel
theorem d_X_boundWith_0 : decode b_X_boundWith 0 = .ok (.aload_n 0, 1) := by decide +kernel
theorem d_X_boundWith_1 : decode b_X_boundWith 1 = .ok (.getfield 25, 3) := by decide +kernel
theorem d_X_boundWith_4 : decode b_X_boundWith 4 = .ok (.astore_n 3, 1) := by decide +kernel
theorem d_X_boundWith_5 : decode b_X_boundWith 5 = .ok (.aload_n 3, 1) := by decide +kernel
theorem d_X_boundWith_6 : decode b_X_boundWith 6 = .ok (.arraylength, 1) := by decide +kernel
theorem d_X_boundWith_7 : decode b_X_boundWith 7 = .ok (.istore 4, 2) := by decide +kernel
theorem d_X_boundWith_9 : decode b_X_boundWith 9 = .ok (.iconst 0, 1) := by decide +kernel
theorem d_X_boundWith_10 : decode b_X_boundWith 10 = .ok (.istore 5, 2) := by decide +kernel
theorem d_X_boundWith_12 : decode b_X_boundWith 12 = .ok (.iload 5, 2) := by decide +kernel
theorem d_X_boundWith_14 : decode b_X_boundWith 14 = .ok (.iload 4, 2) := by decide +kernel
theorem d_X_boundWith_16 : decode b_X_boundWith 16 = .ok (.if_icmp .ge 45, 3) := by decide +kernel
theorem d_X_boundWith_19 : decode b_X_boundWith 19 = .ok (.aload_n 3, 1) := by decide +kernel
theorem d_X_boundWith_20 : decode b_X_boundWith 20 = .ok (.iload 5, 2) := by decide +kernel
theorem d_X_boundWith_22 : decode b_X_boundWith 22 = .ok (.aaload, 1) := by decide +kernel
theorem d_X_boundWith_23 : decode b_X_boundWith 23 = .ok (.astore 6, 2) := by decide +kernel
theorem d_X_boundWith_25 : decode b_X_boundWith 25 = .ok (.aload 6, 2) := by decide +kernel
theorem d_X_boundWith_27 : decode b_X_boundWith 27 = .ok (.getfield 71, 3) := by decide +kernel
theorem d_X_boundWith_30 : decode b_X_boundWith 30 = .ok (.iconst 4, 1) := by decide +kernel
theorem d_X_boundWith_31 : decode b_X_boundWith 31 = .ok (.if_icmp .ne 24, 3) := by decide +kernel
theorem d_X_boundWith_34 : decode b_X_boundWith 34 = .ok (.aload 6, 2) := by decide +kernel
theorem d_X_boundWith_36 : decode b_X_boundWith 36 = .ok (.getfield 80, 3) := by decide +kernel
theorem d_X_boundWith_39 : decode b_X_boundWith 39 = .ok (.iload_n 1, 1) := by decide +kernel
theorem d_X_boundWith_40 : decode b_X_boundWith 40 = .ok (.if_icmp .ne 15, 3) := by decide +kernel
theorem d_X_boundWith_43 : decode b_X_boundWith 43 = .ok (.aload 6, 2) := by decide +kernel
theorem d_X_boundWith_45 : decode b_X_boundWith 45 = .ok (.getfield 101, 3) := by decide +kernel
theorem d_X_boundWith_48 : decode b_X_boundWith 48 = .ok (.iload_n 2, 1) := by decide +kernel
theorem d_X_boundWith_49 : decode b_X_boundWith 49 = .ok (.if_icmp .ne 6, 3) := by decide +kernel
theorem d_X_boundWith_52 : decode b_X_boundWith 52 = .ok (.aload 6, 2) := by decide +kernel
theorem d_X_boundWith_54 : decode b_X_boundWith 54 = .ok (.areturn, 1) := by decide +kernel
theorem d_X_boundWith_55 : decode b_X_boundWith 55 = .ok (.iinc 5 1, 3) := by decide +kernel
theorem d_X_boundWith_58 : decode b_X_boundWith 58 = .ok (.goto (-46), 3) := by decide +kernel
theorem d_X_boundWith_61 : decode b_X_boundWith 61 = .ok (.aconst_null, 1) := by decide +kernel
theorem d_X_boundWith_62 : decode b_X_boundWith 62 = .ok (.areturn, 1) := by decide +kernel
theorem d_X_shut_0 : decode b_X_shut 0 = .ok (.aload_n 1, 1) := by decide +kernel
theorem d_X_shut_1 : decode b_X_shut 1 = .ok (.getfield 104, 3) := by decide +kernel
theorem d_X_shut_4 : decode b_X_shut 4 = .ok (.ifCond .eq 14, 3) := by decide +kernel
theorem d_X_shut_7 : decode b_X_shut 7 = .ok (.aload_n 1, 1) := by decide +kernel
theorem d_X_shut_8 : decode b_X_shut 8 = .ok (.iconst 0, 1) := by decide +kernel
theorem d_X_shut_9 : decode b_X_shut 9 = .ok (.putfield 104, 3) := by decide +kernel
theorem d_X_shut_12 : decode b_X_shut 12 = .ok (.aload_n 0, 1) := by decide +kernel
theorem d_X_shut_13 : decode b_X_shut 13 = .ok (.aload_n 1, 1) := by decide +kernel
theorem d_X_shut_14 : decode b_X_shut 14 = .ok (.iconst 3, 1) := by decide +kernel
theorem d_X_shut_15 : decode b_X_shut 15 = .ok (.invokevirtual 110, 3) := by decide +kernel
theorem d_X_shut_18 : decode b_X_shut 18 = .ok (.aload_n 1, 1) := by decide +kernel
theorem d_X_shut_19 : decode b_X_shut 19 = .ok (.iconst 0, 1) := by decide +kernel
theorem d_X_shut_20 : decode b_X_shut 20 = .ok (.putfield 71, 3) := by decide +kernel
theorem d_X_shut_23 : decode b_X_shut 23 = .ok (.aload_n 1, 1) := by decide +kernel
theorem d_X_shut_24 : decode b_X_shut 24 = .ok (.iconst (-1), 1) := by decide +kernel
theorem d_X_shut_25 : decode b_X_shut 25 = .ok (.putfield 80, 3) := by decide +kernel
theorem d_X_shut_28 : decode b_X_shut 28 = .ok (.aload_n 1, 1) := by decide +kernel
theorem d_X_shut_29 : decode b_X_shut 29 = .ok (.iconst (-1), 1) := by decide +kernel
theorem d_X_shut_30 : decode b_X_shut 30 = .ok (.putfield 101, 3) := by decide +kernel
theorem d_X_shut_33 : decode b_X_shut 33 = .ok (.return_, 1) := by decide +kernel
theorem d_X_presenceOf_0 : decode b_X_presenceOf 0 = .ok (.iload_n 1, 1) := by decide +kernel
theorem d_X_presenceOf_1 : decode b_X_presenceOf 1 = .ok (.iconst 2, 1) := by decide +kernel
theorem d_X_presenceOf_2 : decode b_X_presenceOf 2 = .ok (.if_icmp .ne 10, 3) := by decide +kernel
theorem d_X_presenceOf_5 : decode b_X_presenceOf 5 = .ok (.aload_n 0, 1) := by decide +kernel
theorem d_X_presenceOf_6 : decode b_X_presenceOf 6 = .ok (.getfield 107, 3) := by decide +kernel
theorem d_X_presenceOf_9 : decode b_X_presenceOf 9 = .ok (.goto 4, 3) := by decide +kernel
theorem d_X_presenceOf_12 : decode b_X_presenceOf 12 = .ok (.iconst 0, 1) := by decide +kernel
theorem d_X_presenceOf_13 : decode b_X_presenceOf 13 = .ok (.istore_n 3, 1) := by decide +kernel
theorem d_X_presenceOf_14 : decode b_X_presenceOf 14 = .ok (.new 7, 3) := by decide +kernel
theorem d_X_presenceOf_17 : decode b_X_presenceOf 17 = .ok (.dup, 1) := by decide +kernel
theorem d_X_presenceOf_18 : decode b_X_presenceOf 18 = .ok (.iload_n 1, 1) := by decide +kernel
theorem d_X_presenceOf_19 : decode b_X_presenceOf 19 = .ok (.aload_n 0, 1) := by decide +kernel
theorem d_X_presenceOf_20 : decode b_X_presenceOf 20 = .ok (.getfield 80, 3) := by decide +kernel
theorem d_X_presenceOf_23 : decode b_X_presenceOf 23 = .ok (.aload_n 0, 1) := by decide +kernel
theorem d_X_presenceOf_24 : decode b_X_presenceOf 24 = .ok (.getfield 101, 3) := by decide +kernel
theorem d_X_presenceOf_27 : decode b_X_presenceOf 27 = .ok (.iload_n 3, 1) := by decide +kernel
theorem d_X_presenceOf_28 : decode b_X_presenceOf 28 = .ok (.iload_n 2, 1) := by decide +kernel
theorem d_X_presenceOf_29 : decode b_X_presenceOf 29 = .ok (.iconst (-1), 1) := by decide +kernel
theorem d_X_presenceOf_30 : decode b_X_presenceOf 30 = .ok (.invokespecial 11, 3) := by decide +kernel
theorem d_X_presenceOf_33 : decode b_X_presenceOf 33 = .ok (.areturn, 1) := by decide +kernel
theorem d_X_sendToWatchers_0 : decode b_X_sendToWatchers 0 = .ok (.aload_n 0, 1) := by decide +kernel
theorem d_X_sendToWatchers_1 : decode b_X_sendToWatchers 1 = .ok (.getfield 16, 3) := by decide +kernel
theorem d_X_sendToWatchers_4 : decode b_X_sendToWatchers 4 = .ok (.aload_n 1, 1) := by decide +kernel
theorem d_X_sendToWatchers_5 : decode b_X_sendToWatchers 5 = .ok (.getfield 80, 3) := by decide +kernel
theorem d_X_sendToWatchers_8 : decode b_X_sendToWatchers 8 = .ok (.aaload, 1) := by decide +kernel
theorem d_X_sendToWatchers_9 : decode b_X_sendToWatchers 9 = .ok (.astore_n 3, 1) := by decide +kernel
theorem d_X_sendToWatchers_10 : decode b_X_sendToWatchers 10 = .ok (.iconst 0, 1) := by decide +kernel
theorem d_X_sendToWatchers_11 : decode b_X_sendToWatchers 11 = .ok (.istore 4, 2) := by decide +kernel
theorem d_X_sendToWatchers_13 : decode b_X_sendToWatchers 13 = .ok (.iload 4, 2) := by decide +kernel
theorem d_X_sendToWatchers_15 : decode b_X_sendToWatchers 15 = .ok (.bipush 8, 2) := by decide +kernel
theorem d_X_sendToWatchers_17 : decode b_X_sendToWatchers 17 = .ok (.if_icmp .ge 30, 3) := by decide +kernel
theorem d_X_sendToWatchers_20 : decode b_X_sendToWatchers 20 = .ok (.aload_n 3, 1) := by decide +kernel
theorem d_X_sendToWatchers_21 : decode b_X_sendToWatchers 21 = .ok (.iload 4, 2) := by decide +kernel
theorem d_X_sendToWatchers_23 : decode b_X_sendToWatchers 23 = .ok (.iconst 2, 1) := by decide +kernel
theorem d_X_sendToWatchers_24 : decode b_X_sendToWatchers 24 = .ok (.invokevirtual 126, 3) := by decide +kernel
theorem d_X_sendToWatchers_27 : decode b_X_sendToWatchers 27 = .ok (.ifCond .eq 14, 3) := by decide +kernel
theorem d_X_sendToWatchers_30 : decode b_X_sendToWatchers 30 = .ok (.aload_n 0, 1) := by decide +kernel
theorem d_X_sendToWatchers_31 : decode b_X_sendToWatchers 31 = .ok (.aload_n 1, 1) := by decide +kernel
theorem d_X_sendToWatchers_32 : decode b_X_sendToWatchers 32 = .ok (.iload_n 2, 1) := by decide +kernel
theorem d_X_sendToWatchers_33 : decode b_X_sendToWatchers 33 = .ok (.iload 4, 2) := by decide +kernel
theorem d_X_sendToWatchers_35 : decode b_X_sendToWatchers 35 = .ok (.invokestatic 181, 3) := by decide +kernel
theorem d_X_sendToWatchers_38 : decode b_X_sendToWatchers 38 = .ok (.invokevirtual 123, 3) := by decide +kernel
theorem d_X_sendToWatchers_41 : decode b_X_sendToWatchers 41 = .ok (.iinc 4 1, 3) := by decide +kernel
theorem d_X_sendToWatchers_44 : decode b_X_sendToWatchers 44 = .ok (.goto (-31), 3) := by decide +kernel
theorem d_X_sendToWatchers_47 : decode b_X_sendToWatchers 47 = .ok (.return_, 1) := by decide +kernel
theorem d_X_sendPresences_0 : decode b_X_sendPresences 0 = .ok (.aload_n 0, 1) := by decide +kernel
theorem d_X_sendPresences_1 : decode b_X_sendPresences 1 = .ok (.getfield 25, 3) := by decide +kernel
theorem d_X_sendPresences_4 : decode b_X_sendPresences 4 = .ok (.astore 4, 2) := by decide +kernel
theorem d_X_sendPresences_6 : decode b_X_sendPresences 6 = .ok (.aload 4, 2) := by decide +kernel
theorem d_X_sendPresences_8 : decode b_X_sendPresences 8 = .ok (.arraylength, 1) := by decide +kernel
theorem d_X_sendPresences_9 : decode b_X_sendPresences 9 = .ok (.istore 5, 2) := by decide +kernel
theorem d_X_sendPresences_11 : decode b_X_sendPresences 11 = .ok (.iconst 0, 1) := by decide +kernel
theorem d_X_sendPresences_12 : decode b_X_sendPresences 12 = .ok (.istore 6, 2) := by decide +kernel
theorem d_X_sendPresences_14 : decode b_X_sendPresences 14 = .ok (.iload 6, 2) := by decide +kernel
theorem d_X_sendPresences_16 : decode b_X_sendPresences 16 = .ok (.iload 5, 2) := by decide +kernel
theorem d_X_sendPresences_18 : decode b_X_sendPresences 18 = .ok (.if_icmp .ge 36, 3) := by decide +kernel
theorem d_X_sendPresences_21 : decode b_X_sendPresences 21 = .ok (.aload 4, 2) := by decide +kernel
theorem d_X_sendPresences_23 : decode b_X_sendPresences 23 = .ok (.iload 6, 2) := by decide +kernel
theorem d_X_sendPresences_25 : decode b_X_sendPresences 25 = .ok (.aaload, 1) := by decide +kernel
theorem d_X_sendPresences_26 : decode b_X_sendPresences 26 = .ok (.astore 7, 2) := by decide +kernel
theorem d_X_sendPresences_28 : decode b_X_sendPresences 28 = .ok (.aload 7, 2) := by decide +kernel
theorem d_X_sendPresences_30 : decode b_X_sendPresences 30 = .ok (.iload_n 1, 1) := by decide +kernel
theorem d_X_sendPresences_31 : decode b_X_sendPresences 31 = .ok (.invokevirtual 185, 3) := by decide +kernel
theorem d_X_sendPresences_34 : decode b_X_sendPresences 34 = .ok (.ifCond .eq 14, 3) := by decide +kernel
theorem d_X_sendPresences_37 : decode b_X_sendPresences 37 = .ok (.aload_n 0, 1) := by decide +kernel
theorem d_X_sendPresences_38 : decode b_X_sendPresences 38 = .ok (.aload 7, 2) := by decide +kernel
theorem d_X_sendPresences_40 : decode b_X_sendPresences 40 = .ok (.iload_n 3, 1) := by decide +kernel
theorem d_X_sendPresences_41 : decode b_X_sendPresences 41 = .ok (.iload_n 2, 1) := by decide +kernel
theorem d_X_sendPresences_42 : decode b_X_sendPresences 42 = .ok (.invokestatic 181, 3) := by decide +kernel
theorem d_X_sendPresences_45 : decode b_X_sendPresences 45 = .ok (.invokevirtual 123, 3) := by decide +kernel
theorem d_X_sendPresences_48 : decode b_X_sendPresences 48 = .ok (.iinc 6 1, 3) := by decide +kernel
theorem d_X_sendPresences_51 : decode b_X_sendPresences 51 = .ok (.goto (-37), 3) := by decide +kernel
theorem d_X_sendPresences_54 : decode b_X_sendPresences 54 = .ok (.return_, 1) := by decide +kernel
theorem d_X_showOthers_0 : decode b_X_showOthers 0 = .ok (.aload_n 0, 1) := by decide +kernel
theorem d_X_showOthers_1 : decode b_X_showOthers 1 = .ok (.getfield 16, 3) := by decide +kernel
theorem d_X_showOthers_4 : decode b_X_showOthers 4 = .ok (.aload_n 1, 1) := by decide +kernel
theorem d_X_showOthers_5 : decode b_X_showOthers 5 = .ok (.getfield 80, 3) := by decide +kernel
theorem d_X_showOthers_8 : decode b_X_showOthers 8 = .ok (.aaload, 1) := by decide +kernel
theorem d_X_showOthers_9 : decode b_X_showOthers 9 = .ok (.astore_n 2, 1) := by decide +kernel
theorem d_X_showOthers_10 : decode b_X_showOthers 10 = .ok (.iconst 0, 1) := by decide +kernel
theorem d_X_showOthers_11 : decode b_X_showOthers 11 = .ok (.istore_n 3, 1) := by decide +kernel
theorem d_X_showOthers_12 : decode b_X_showOthers 12 = .ok (.iload_n 3, 1) := by decide +kernel
theorem d_X_showOthers_13 : decode b_X_showOthers 13 = .ok (.bipush 8, 2) := by decide +kernel
theorem d_X_showOthers_15 : decode b_X_showOthers 15 = .ok (.if_icmp .ge 36, 3) := by decide +kernel
theorem d_X_showOthers_18 : decode b_X_showOthers 18 = .ok (.aload_n 2, 1) := by decide +kernel
theorem d_X_showOthers_19 : decode b_X_showOthers 19 = .ok (.iload_n 3, 1) := by decide +kernel
theorem d_X_showOthers_20 : decode b_X_showOthers 20 = .ok (.iconst 1, 1) := by decide +kernel
theorem d_X_showOthers_21 : decode b_X_showOthers 21 = .ok (.invokevirtual 126, 3) := by decide +kernel
theorem d_X_showOthers_24 : decode b_X_showOthers 24 = .ok (.ifCond .eq 21, 3) := by decide +kernel
theorem d_X_showOthers_27 : decode b_X_showOthers 27 = .ok (.aload_n 0, 1) := by decide +kernel
theorem d_X_showOthers_28 : decode b_X_showOthers 28 = .ok (.aload_n 1, 1) := by decide +kernel
theorem d_X_showOthers_29 : decode b_X_showOthers 29 = .ok (.getfield 80, 3) := by decide +kernel
theorem d_X_showOthers_32 : decode b_X_showOthers 32 = .ok (.iload_n 3, 1) := by decide +kernel
theorem d_X_showOthers_33 : decode b_X_showOthers 33 = .ok (.invokevirtual 188, 3) := by decide +kernel
theorem d_X_showOthers_36 : decode b_X_showOthers 36 = .ok (.ifCond .eq 9, 3) := by decide +kernel
theorem d_X_showOthers_39 : decode b_X_showOthers 39 = .ok (.aload_n 0, 1) := by decide +kernel
theorem d_X_showOthers_40 : decode b_X_showOthers 40 = .ok (.iload_n 3, 1) := by decide +kernel
theorem d_X_showOthers_41 : decode b_X_showOthers 41 = .ok (.aload_n 1, 1) := by decide +kernel
theorem d_X_showOthers_42 : decode b_X_showOthers 42 = .ok (.invokevirtual 191, 3) := by decide +kernel
theorem d_X_showOthers_45 : decode b_X_showOthers 45 = .ok (.iinc 3 1, 3) := by decide +kernel
theorem d_X_showOthers_48 : decode b_X_showOthers 48 = .ok (.goto (-36), 3) := by decide +kernel
theorem d_X_showOthers_51 : decode b_X_showOthers 51 = .ok (.return_, 1) := by decide +kernel
theorem d_X_showConnectionsOf_0 : decode b_X_showConnectionsOf 0 = .ok (.aload_n 0, 1) := by decide +kernel
theorem d_X_showConnectionsOf_1 : decode b_X_showConnectionsOf 1 = .ok (.getfield 25, 3) := by decide +kernel
theorem d_X_showConnectionsOf_4 : decode b_X_showConnectionsOf 4 = .ok (.astore_n 3, 1) := by decide +kernel
theorem d_X_showConnectionsOf_5 : decode b_X_showConnectionsOf 5 = .ok (.aload_n 3, 1) := by decide +kernel
theorem d_X_showConnectionsOf_6 : decode b_X_showConnectionsOf 6 = .ok (.arraylength, 1) := by decide +kernel
theorem d_X_showConnectionsOf_7 : decode b_X_showConnectionsOf 7 = .ok (.istore 4, 2) := by decide +kernel
theorem d_X_showConnectionsOf_9 : decode b_X_showConnectionsOf 9 = .ok (.iconst 0, 1) := by decide +kernel
theorem d_X_showConnectionsOf_10 : decode b_X_showConnectionsOf 10 = .ok (.istore 5, 2) := by decide +kernel
theorem d_X_showConnectionsOf_12 : decode b_X_showConnectionsOf 12 = .ok (.iload 5, 2) := by decide +kernel
theorem d_X_showConnectionsOf_14 : decode b_X_showConnectionsOf 14 = .ok (.iload 4, 2) := by decide +kernel
theorem d_X_showConnectionsOf_16 : decode b_X_showConnectionsOf 16 = .ok (.if_icmp .ge 41, 3) := by decide +kernel
theorem d_X_showConnectionsOf_19 : decode b_X_showConnectionsOf 19 = .ok (.aload_n 3, 1) := by decide +kernel
theorem d_X_showConnectionsOf_20 : decode b_X_showConnectionsOf 20 = .ok (.iload 5, 2) := by decide +kernel
theorem d_X_showConnectionsOf_22 : decode b_X_showConnectionsOf 22 = .ok (.aaload, 1) := by decide +kernel
theorem d_X_showConnectionsOf_23 : decode b_X_showConnectionsOf 23 = .ok (.astore 6, 2) := by decide +kernel
theorem d_X_showConnectionsOf_25 : decode b_X_showConnectionsOf 25 = .ok (.aload 6, 2) := by decide +kernel
theorem d_X_showConnectionsOf_27 : decode b_X_showConnectionsOf 27 = .ok (.iload_n 1, 1) := by decide +kernel
theorem d_X_showConnectionsOf_28 : decode b_X_showConnectionsOf 28 = .ok (.invokevirtual 185, 3) := by decide +kernel
theorem d_X_showConnectionsOf_31 : decode b_X_showConnectionsOf 31 = .ok (.ifCond .eq 20, 3) := by decide +kernel
theorem d_X_showConnectionsOf_34 : decode b_X_showConnectionsOf 34 = .ok (.aload_n 2, 1) := by decide +kernel
theorem d_X_showConnectionsOf_35 : decode b_X_showConnectionsOf 35 = .ok (.getfield 74, 3) := by decide +kernel
theorem d_X_showConnectionsOf_38 : decode b_X_showConnectionsOf 38 = .ok (.aload 6, 2) := by decide +kernel
theorem d_X_showConnectionsOf_40 : decode b_X_showConnectionsOf 40 = .ok (.iconst 2, 1) := by decide +kernel
theorem d_X_showConnectionsOf_41 : decode b_X_showConnectionsOf 41 = .ok (.aload_n 2, 1) := by decide +kernel
theorem d_X_showConnectionsOf_42 : decode b_X_showConnectionsOf 42 = .ok (.getfield 80, 3) := by decide +kernel
theorem d_X_showConnectionsOf_45 : decode b_X_showConnectionsOf 45 = .ok (.invokestatic 181, 3) := by decide +kernel
theorem d_X_showConnectionsOf_48 : decode b_X_showConnectionsOf 48 = .ok (.invokevirtual 195, 3) := by decide +kernel
theorem d_X_showConnectionsOf_51 : decode b_X_showConnectionsOf 51 = .ok (.iinc 5 1, 3) := by decide +kernel
theorem d_X_showConnectionsOf_54 : decode b_X_showConnectionsOf 54 = .ok (.goto (-42), 3) := by decide +kernel
theorem d_X_showConnectionsOf_57 : decode b_X_showConnectionsOf 57 = .ok (.return_, 1) := by decide +kernel
theorem d_X_handOverKept_0 : decode b_X_handOverKept 0 = .ok (.aload_n 0, 1) := by decide +kernel
theorem d_X_handOverKept_1 : decode b_X_handOverKept 1 = .ok (.getfield 16, 3) := by decide +kernel
theorem d_X_handOverKept_4 : decode b_X_handOverKept 4 = .ok (.aload_n 1, 1) := by decide +kernel
theorem d_X_handOverKept_5 : decode b_X_handOverKept 5 = .ok (.getfield 80, 3) := by decide +kernel
theorem d_X_handOverKept_8 : decode b_X_handOverKept 8 = .ok (.aaload, 1) := by decide +kernel
theorem d_X_handOverKept_9 : decode b_X_handOverKept 9 = .ok (.getfield 172, 3) := by decide +kernel
theorem d_X_handOverKept_12 : decode b_X_handOverKept 12 = .ok (.astore_n 2, 1) := by decide +kernel
theorem d_X_handOverKept_13 : decode b_X_handOverKept 13 = .ok (.aload_n 2, 1) := by decide +kernel
theorem d_X_handOverKept_14 : decode b_X_handOverKept 14 = .ok (.getfield 120, 3) := by decide +kernel
theorem d_X_handOverKept_17 : decode b_X_handOverKept 17 = .ok (.istore_n 3, 1) := by decide +kernel
theorem d_X_handOverKept_18 : decode b_X_handOverKept 18 = .ok (.iconst 0, 1) := by decide +kernel
theorem d_X_handOverKept_19 : decode b_X_handOverKept 19 = .ok (.istore 4, 2) := by decide +kernel
theorem d_X_handOverKept_21 : decode b_X_handOverKept 21 = .ok (.iload 4, 2) := by decide +kernel
theorem d_X_handOverKept_23 : decode b_X_handOverKept 23 = .ok (.iload_n 3, 1) := by decide +kernel
theorem d_X_handOverKept_24 : decode b_X_handOverKept 24 = .ok (.if_icmp .ge 20, 3) := by decide +kernel
theorem d_X_handOverKept_27 : decode b_X_handOverKept 27 = .ok (.aload_n 1, 1) := by decide +kernel
theorem d_X_handOverKept_28 : decode b_X_handOverKept 28 = .ok (.getfield 74, 3) := by decide +kernel
theorem d_X_handOverKept_31 : decode b_X_handOverKept 31 = .ok (.aload_n 2, 1) := by decide +kernel
theorem d_X_handOverKept_32 : decode b_X_handOverKept 32 = .ok (.invokevirtual 138, 3) := by decide +kernel
theorem d_X_handOverKept_35 : decode b_X_handOverKept 35 = .ok (.invokevirtual 195, 3) := by decide +kernel
theorem d_X_handOverKept_38 : decode b_X_handOverKept 38 = .ok (.iinc 4 1, 3) := by decide +kernel
theorem d_X_handOverKept_41 : decode b_X_handOverKept 41 = .ok (.goto (-20), 3) := by decide +kernel
theorem d_X_handOverKept_44 : decode b_X_handOverKept 44 = .ok (.return_, 1) := by decide +kernel
theorem d_X_changeOwnMarks_0 : decode b_X_changeOwnMarks 0 = .ok (.iload_n 2, 1) := by decide +kernel
theorem d_X_changeOwnMarks_1 : decode b_X_changeOwnMarks 1 = .ok (.tableswitch 84 4 7 #[31, 49, 65, 74], 31) := by decide +kernel
theorem d_X_changeOwnMarks_32 : decode b_X_changeOwnMarks 32 = .ok (.aload_n 0, 1) := by decide +kernel
theorem d_X_changeOwnMarks_33 : decode b_X_changeOwnMarks 33 = .ok (.iload_n 1, 1) := by decide +kernel
theorem d_X_changeOwnMarks_34 : decode b_X_changeOwnMarks 34 = .ok (.iconst 1, 1) := by decide +kernel
theorem d_X_changeOwnMarks_35 : decode b_X_changeOwnMarks 35 = .ok (.invokevirtual 126, 3) := by decide +kernel
theorem d_X_changeOwnMarks_38 : decode b_X_changeOwnMarks 38 = .ok (.ifCond .ne 47, 3) := by decide +kernel
theorem d_X_changeOwnMarks_41 : decode b_X_changeOwnMarks 41 = .ok (.aload_n 0, 1) := by decide +kernel
theorem d_X_changeOwnMarks_42 : decode b_X_changeOwnMarks 42 = .ok (.iload_n 1, 1) := by decide +kernel
theorem d_X_changeOwnMarks_43 : decode b_X_changeOwnMarks 43 = .ok (.iconst 4, 1) := by decide +kernel
theorem d_X_changeOwnMarks_44 : decode b_X_changeOwnMarks 44 = .ok (.invokevirtual 198, 3) := by decide +kernel
theorem d_X_changeOwnMarks_47 : decode b_X_changeOwnMarks 47 = .ok (.goto 38, 3) := by decide +kernel
theorem d_X_changeOwnMarks_50 : decode b_X_changeOwnMarks 50 = .ok (.aload_n 0, 1) := by decide +kernel
theorem d_X_changeOwnMarks_51 : decode b_X_changeOwnMarks 51 = .ok (.iload_n 1, 1) := by decide +kernel
theorem d_X_changeOwnMarks_52 : decode b_X_changeOwnMarks 52 = .ok (.iconst 2, 1) := by decide +kernel
theorem d_X_changeOwnMarks_53 : decode b_X_changeOwnMarks 53 = .ok (.invokevirtual 198, 3) := by decide +kernel
theorem d_X_changeOwnMarks_56 : decode b_X_changeOwnMarks 56 = .ok (.aload_n 0, 1) := by decide +kernel
theorem d_X_changeOwnMarks_57 : decode b_X_changeOwnMarks 57 = .ok (.iload_n 1, 1) := by decide +kernel
theorem d_X_changeOwnMarks_58 : decode b_X_changeOwnMarks 58 = .ok (.bipush 8, 2) := by decide +kernel
theorem d_X_changeOwnMarks_60 : decode b_X_changeOwnMarks 60 = .ok (.invokevirtual 202, 3) := by decide +kernel
theorem d_X_changeOwnMarks_63 : decode b_X_changeOwnMarks 63 = .ok (.goto 22, 3) := by decide +kernel
theorem d_X_changeOwnMarks_66 : decode b_X_changeOwnMarks 66 = .ok (.aload_n 0, 1) := by decide +kernel
theorem d_X_changeOwnMarks_67 : decode b_X_changeOwnMarks 67 = .ok (.iload_n 1, 1) := by decide +kernel
theorem d_X_changeOwnMarks_68 : decode b_X_changeOwnMarks 68 = .ok (.iconst 5, 1) := by decide +kernel
theorem d_X_changeOwnMarks_69 : decode b_X_changeOwnMarks 69 = .ok (.invokevirtual 202, 3) := by decide +kernel
theorem d_X_changeOwnMarks_72 : decode b_X_changeOwnMarks 72 = .ok (.goto 13, 3) := by decide +kernel
theorem d_X_changeOwnMarks_75 : decode b_X_changeOwnMarks 75 = .ok (.aload_n 0, 1) := by decide +kernel
theorem d_X_changeOwnMarks_76 : decode b_X_changeOwnMarks 76 = .ok (.iload_n 1, 1) := by decide +kernel
theorem d_X_changeOwnMarks_77 : decode b_X_changeOwnMarks 77 = .ok (.bipush 10, 2) := by decide +kernel
theorem d_X_changeOwnMarks_79 : decode b_X_changeOwnMarks 79 = .ok (.invokevirtual 202, 3) := by decide +kernel
theorem d_X_changeOwnMarks_82 : decode b_X_changeOwnMarks 82 = .ok (.goto 3, 3) := by decide +kernel
theorem d_X_changeOwnMarks_85 : decode b_X_changeOwnMarks 85 = .ok (.return_, 1) := by decide +kernel
theorem d_X_send_0 : decode b_X_send 0 = .ok (.aload_n 0, 1) := by decide +kernel
theorem d_X_send_1 : decode b_X_send 1 = .ok (.aload_n 1, 1) := by decide +kernel
theorem d_X_send_2 : decode b_X_send 2 = .ok (.getfield 151, 3) := by decide +kernel
theorem d_X_send_5 : decode b_X_send 5 = .ok (.aload_n 1, 1) := by decide +kernel
theorem d_X_send_6 : decode b_X_send 6 = .ok (.getfield 205, 3) := by decide +kernel
theorem d_X_send_9 : decode b_X_send 9 = .ok (.invokevirtual 188, 3) := by decide +kernel
theorem d_X_send_12 : decode b_X_send 12 = .ok (.ifCond .eq 11, 3) := by decide +kernel
theorem d_X_send_15 : decode b_X_send 15 = .ok (.aload_n 0, 1) := by decide +kernel
theorem d_X_send_16 : decode b_X_send 16 = .ok (.aload_n 1, 1) := by decide +kernel
theorem d_X_send_17 : decode b_X_send 17 = .ok (.invokevirtual 142, 3) := by decide +kernel
theorem d_X_send_20 : decode b_X_send 20 = .ok (.goto 37, 3) := by decide +kernel
theorem d_X_send_23 : decode b_X_send 23 = .ok (.aload_n 0, 1) := by decide +kernel
theorem d_X_send_24 : decode b_X_send 24 = .ok (.getfield 35, 3) := by decide +kernel
theorem d_X_send_27 : decode b_X_send 27 = .ok (.invokevirtual 208, 3) := by decide +kernel
theorem d_X_send_30 : decode b_X_send 30 = .ok (.ifCond .ne 14, 3) := by decide +kernel
theorem d_X_send_33 : decode b_X_send 33 = .ok (.aload_n 0, 1) := by decide +kernel
theorem d_X_send_34 : decode b_X_send 34 = .ok (.getfield 35, 3) := by decide +kernel
theorem d_X_send_37 : decode b_X_send 37 = .ok (.aload_n 1, 1) := by decide +kernel
theorem d_X_send_38 : decode b_X_send 38 = .ok (.invokevirtual 195, 3) := by decide +kernel
theorem d_X_send_41 : decode b_X_send 41 = .ok (.goto 16, 3) := by decide +kernel
theorem d_X_send_44 : decode b_X_send 44 = .ok (.aload_n 1, 1) := by decide +kernel
theorem d_X_send_45 : decode b_X_send 45 = .ok (.getfield 148, 3) := by decide +kernel
theorem d_X_send_48 : decode b_X_send 48 = .ok (.iconst 1, 1) := by decide +kernel
theorem d_X_send_49 : decode b_X_send 49 = .ok (.if_icmp .ne 8, 3) := by decide +kernel
theorem d_X_send_52 : decode b_X_send 52 = .ok (.aload_n 0, 1) := by decide +kernel
theorem d_X_send_53 : decode b_X_send 53 = .ok (.aload_n 1, 1) := by decide +kernel
theorem d_X_send_54 : decode b_X_send 54 = .ok (.invokevirtual 212, 3) := by decide +kernel
theorem d_X_send_57 : decode b_X_send 57 = .ok (.return_, 1) := by decide +kernel
theorem d_X_returnError_0 : decode b_X_returnError 0 = .ok (.aload_n 0, 1) := by decide +kernel
theorem d_X_returnError_1 : decode b_X_returnError 1 = .ok (.new 7, 3) := by decide +kernel
theorem d_X_returnError_4 : decode b_X_returnError 4 = .ok (.dup, 1) := by decide +kernel
theorem d_X_returnError_5 : decode b_X_returnError 5 = .ok (.bipush 8, 2) := by decide +kernel
theorem d_X_returnError_7 : decode b_X_returnError 7 = .ok (.aload_n 1, 1) := by decide +kernel
theorem d_X_returnError_8 : decode b_X_returnError 8 = .ok (.getfield 205, 3) := by decide +kernel
theorem d_X_returnError_11 : decode b_X_returnError 11 = .ok (.iconst (-1), 1) := by decide +kernel
theorem d_X_returnError_12 : decode b_X_returnError 12 = .ok (.aload_n 1, 1) := by decide +kernel
theorem d_X_returnError_13 : decode b_X_returnError 13 = .ok (.getfield 155, 3) := by decide +kernel
theorem d_X_returnError_16 : decode b_X_returnError 16 = .ok (.aload_n 1, 1) := by decide +kernel
theorem d_X_returnError_17 : decode b_X_returnError 17 = .ok (.getfield 151, 3) := by decide +kernel
theorem d_X_returnError_20 : decode b_X_returnError 20 = .ok (.iconst (-1), 1) := by decide +kernel
theorem d_X_returnError_21 : decode b_X_returnError 21 = .ok (.invokespecial 11, 3) := by decide +kernel
theorem d_X_returnError_24 : decode b_X_returnError 24 = .ok (.invokevirtual 215, 3) := by decide +kernel
theorem d_X_returnError_27 : decode b_X_returnError 27 = .ok (.return_, 1) := by decide +kernel
theorem d_X_giveToAvailable_0 : decode b_X_giveToAvailable 0 = .ok (.aload_n 0, 1) := by decide +kernel
theorem d_X_giveToAvailable_1 : decode b_X_giveToAvailable 1 = .ok (.getfield 25, 3) := by decide +kernel
theorem d_X_giveToAvailable_4 : decode b_X_giveToAvailable 4 = .ok (.astore_n 2, 1) := by decide +kernel
theorem d_X_giveToAvailable_5 : decode b_X_giveToAvailable 5 = .ok (.aload_n 2, 1) := by decide +kernel
theorem d_X_giveToAvailable_6 : decode b_X_giveToAvailable 6 = .ok (.arraylength, 1) := by decide +kernel
theorem d_X_giveToAvailable_7 : decode b_X_giveToAvailable 7 = .ok (.istore_n 3, 1) := by decide +kernel
theorem d_X_giveToAvailable_8 : decode b_X_giveToAvailable 8 = .ok (.iconst 0, 1) := by decide +kernel
theorem d_X_giveToAvailable_9 : decode b_X_giveToAvailable 9 = .ok (.istore 4, 2) := by decide +kernel
theorem d_X_giveToAvailable_11 : decode b_X_giveToAvailable 11 = .ok (.iload 4, 2) := by decide +kernel
theorem d_X_giveToAvailable_13 : decode b_X_giveToAvailable 13 = .ok (.iload_n 3, 1) := by decide +kernel
theorem d_X_giveToAvailable_14 : decode b_X_giveToAvailable 14 = .ok (.if_icmp .ge 36, 3) := by decide +kernel
theorem d_X_giveToAvailable_17 : decode b_X_giveToAvailable 17 = .ok (.aload_n 2, 1) := by decide +kernel
theorem d_X_giveToAvailable_18 : decode b_X_giveToAvailable 18 = .ok (.iload 4, 2) := by decide +kernel
theorem d_X_giveToAvailable_20 : decode b_X_giveToAvailable 20 = .ok (.aaload, 1) := by decide +kernel
theorem d_X_giveToAvailable_21 : decode b_X_giveToAvailable 21 = .ok (.astore 5, 2) := by decide +kernel
theorem d_X_giveToAvailable_23 : decode b_X_giveToAvailable 23 = .ok (.aload 5, 2) := by decide +kernel
theorem d_X_giveToAvailable_25 : decode b_X_giveToAvailable 25 = .ok (.aload_n 1, 1) := by decide +kernel
theorem d_X_giveToAvailable_26 : decode b_X_giveToAvailable 26 = .ok (.getfield 205, 3) := by decide +kernel
theorem d_X_giveToAvailable_29 : decode b_X_giveToAvailable 29 = .ok (.invokevirtual 185, 3) := by decide +kernel
theorem d_X_giveToAvailable_32 : decode b_X_giveToAvailable 32 = .ok (.ifCond .eq 12, 3) := by decide +kernel
theorem d_X_giveToAvailable_35 : decode b_X_giveToAvailable 35 = .ok (.aload 5, 2) := by decide +kernel
theorem d_X_giveToAvailable_37 : decode b_X_giveToAvailable 37 = .ok (.getfield 74, 3) := by decide +kernel
theorem d_X_giveToAvailable_40 : decode b_X_giveToAvailable 40 = .ok (.aload_n 1, 1) := by decide +kernel
theorem d_X_giveToAvailable_41 : decode b_X_giveToAvailable 41 = .ok (.invokevirtual 195, 3) := by decide +kernel
theorem d_X_giveToAvailable_44 : decode b_X_giveToAvailable 44 = .ok (.iinc 4 1, 3) := by decide +kernel
theorem d_X_giveToAvailable_47 : decode b_X_giveToAvailable 47 = .ok (.goto (-36), 3) := by decide +kernel
theorem d_X_giveToAvailable_50 : decode b_X_giveToAvailable 50 = .ok (.return_, 1) := by decide +kernel
theorem d_X_arrive_0 : decode b_X_arrive 0 = .ok (.aload_n 1, 1) := by decide +kernel
theorem d_X_arrive_1 : decode b_X_arrive 1 = .ok (.getfield 148, 3) := by decide +kernel
theorem d_X_arrive_4 : decode b_X_arrive 4 = .ok (.tableswitch 115 1 7 #[44, 87, 87, 52, 60, 68, 78], 44) := by decide +kernel
theorem d_X_arrive_48 : decode b_X_arrive 48 = .ok (.aload_n 0, 1) := by decide +kernel
theorem d_X_arrive_49 : decode b_X_arrive 49 = .ok (.aload_n 1, 1) := by decide +kernel
theorem d_X_arrive_50 : decode b_X_arrive 50 = .ok (.invokevirtual 218, 3) := by decide +kernel
theorem d_X_arrive_53 : decode b_X_arrive 53 = .ok (.goto 66, 3) := by decide +kernel
theorem d_X_arrive_56 : decode b_X_arrive 56 = .ok (.aload_n 0, 1) := by decide +kernel
theorem d_X_arrive_57 : decode b_X_arrive 57 = .ok (.aload_n 1, 1) := by decide +kernel
theorem d_X_arrive_58 : decode b_X_arrive 58 = .ok (.invokevirtual 221, 3) := by decide +kernel
theorem d_X_arrive_61 : decode b_X_arrive 61 = .ok (.goto 58, 3) := by decide +kernel
theorem d_X_arrive_64 : decode b_X_arrive 64 = .ok (.aload_n 0, 1) := by decide +kernel
theorem d_X_arrive_65 : decode b_X_arrive 65 = .ok (.aload_n 1, 1) := by decide +kernel
theorem d_X_arrive_66 : decode b_X_arrive 66 = .ok (.invokevirtual 224, 3) := by decide +kernel
theorem d_X_arrive_69 : decode b_X_arrive 69 = .ok (.goto 50, 3) := by decide +kernel
theorem d_X_arrive_72 : decode b_X_arrive 72 = .ok (.aload_n 0, 1) := by decide +kernel
theorem d_X_arrive_73 : decode b_X_arrive 73 = .ok (.aload_n 1, 1) := by decide +kernel
theorem d_X_arrive_74 : decode b_X_arrive 74 = .ok (.bipush 10, 2) := by decide +kernel
theorem d_X_arrive_76 : decode b_X_arrive 76 = .ok (.invokevirtual 227, 3) := by decide +kernel
theorem d_X_arrive_79 : decode b_X_arrive 79 = .ok (.goto 40, 3) := by decide +kernel
theorem d_X_arrive_82 : decode b_X_arrive 82 = .ok (.aload_n 0, 1) := by decide +kernel
theorem d_X_arrive_83 : decode b_X_arrive 83 = .ok (.aload_n 1, 1) := by decide +kernel
theorem d_X_arrive_84 : decode b_X_arrive 84 = .ok (.iconst 5, 1) := by decide +kernel
theorem d_X_arrive_85 : decode b_X_arrive 85 = .ok (.invokevirtual 227, 3) := by decide +kernel
theorem d_X_arrive_88 : decode b_X_arrive 88 = .ok (.goto 31, 3) := by decide +kernel
theorem d_X_arrive_91 : decode b_X_arrive 91 = .ok (.aload_n 0, 1) := by decide +kernel
theorem d_X_arrive_92 : decode b_X_arrive 92 = .ok (.getfield 16, 3) := by decide +kernel
theorem d_X_arrive_95 : decode b_X_arrive 95 = .ok (.aload_n 1, 1) := by decide +kernel
theorem d_X_arrive_96 : decode b_X_arrive 96 = .ok (.getfield 205, 3) := by decide +kernel
theorem d_X_arrive_99 : decode b_X_arrive 99 = .ok (.aaload, 1) := by decide +kernel
theorem d_X_arrive_100 : decode b_X_arrive 100 = .ok (.aload_n 1, 1) := by decide +kernel
theorem d_X_arrive_101 : decode b_X_arrive 101 = .ok (.getfield 151, 3) := by decide +kernel
theorem d_X_arrive_104 : decode b_X_arrive 104 = .ok (.iconst 1, 1) := by decide +kernel
theorem d_X_arrive_105 : decode b_X_arrive 105 = .ok (.invokevirtual 126, 3) := by decide +kernel
theorem d_X_arrive_108 : decode b_X_arrive 108 = .ok (.ifCond .eq 11, 3) := by decide +kernel
theorem d_X_arrive_111 : decode b_X_arrive 111 = .ok (.aload_n 0, 1) := by decide +kernel
theorem d_X_arrive_112 : decode b_X_arrive 112 = .ok (.aload_n 1, 1) := by decide +kernel
theorem d_X_arrive_113 : decode b_X_arrive 113 = .ok (.invokevirtual 215, 3) := by decide +kernel
theorem d_X_arrive_116 : decode b_X_arrive 116 = .ok (.goto 3, 3) := by decide +kernel
theorem d_X_arrive_119 : decode b_X_arrive 119 = .ok (.return_, 1) := by decide +kernel
theorem d_X_messageArrives_0 : decode b_X_messageArrives 0 = .ok (.aload_n 0, 1) := by decide +kernel
theorem d_X_messageArrives_1 : decode b_X_messageArrives 1 = .ok (.aload_n 1, 1) := by decide +kernel
theorem d_X_messageArrives_2 : decode b_X_messageArrives 2 = .ok (.getfield 205, 3) := by decide +kernel
theorem d_X_messageArrives_5 : decode b_X_messageArrives 5 = .ok (.aload_n 1, 1) := by decide +kernel
theorem d_X_messageArrives_6 : decode b_X_messageArrives 6 = .ok (.getfield 231, 3) := by decide +kernel
theorem d_X_messageArrives_9 : decode b_X_messageArrives 9 = .ok (.invokevirtual 93, 3) := by decide +kernel
theorem d_X_messageArrives_12 : decode b_X_messageArrives 12 = .ok (.astore_n 2, 1) := by decide +kernel
theorem d_X_messageArrives_13 : decode b_X_messageArrives 13 = .ok (.aload_n 2, 1) := by decide +kernel
theorem d_X_messageArrives_14 : decode b_X_messageArrives 14 = .ok (.ifnull 19, 3) := by decide +kernel
theorem d_X_messageArrives_17 : decode b_X_messageArrives 17 = .ok (.aload_n 2, 1) := by decide +kernel
theorem d_X_messageArrives_18 : decode b_X_messageArrives 18 = .ok (.getfield 104, 3) := by decide +kernel
theorem d_X_messageArrives_21 : decode b_X_messageArrives 21 = .ok (.ifCond .eq 12, 3) := by decide +kernel
theorem d_X_messageArrives_24 : decode b_X_messageArrives 24 = .ok (.aload_n 2, 1) := by decide +kernel
theorem d_X_messageArrives_25 : decode b_X_messageArrives 25 = .ok (.getfield 74, 3) := by decide +kernel
theorem d_X_messageArrives_28 : decode b_X_messageArrives 28 = .ok (.aload_n 1, 1) := by decide +kernel
theorem d_X_messageArrives_29 : decode b_X_messageArrives 29 = .ok (.invokevirtual 195, 3) := by decide +kernel
theorem d_X_messageArrives_32 : decode b_X_messageArrives 32 = .ok (.return_, 1) := by decide +kernel
theorem d_X_messageArrives_33 : decode b_X_messageArrives 33 = .ok (.aload_n 0, 1) := by decide +kernel
end
section
theorem d_X_messageArrives_34 : decode b_X_messageArrives 34 = .ok (.aload_n 1, 1) := by decide +kernel
theorem d_X_messageArrives_35 : decode b_X_messageArrives 35 = .ok (.getfield 205, 3) := by decide +kernel
theorem d_X_messageArrives_38 : decode b_X_messageArrives 38 = .ok (.invokevirtual 234, 3) := by decide +kernel
theorem d_X_messageArrives_41 : decode b_X_messageArrives 41 = .ok (.istore_n 3, 1) := by decide +kernel
theorem d_X_messageArrives_42 : decode b_X_messageArrives 42 = .ok (.aload_n 0, 1) := by decide +kernel
theorem d_X_messageArrives_43 : decode b_X_messageArrives 43 = .ok (.getfield 16, 3) := by decide +kernel
theorem d_X_messageArrives_46 : decode b_X_messageArrives 46 = .ok (.aload_n 1, 1) := by decide +kernel
theorem d_X_messageArrives_47 : decode b_X_messageArrives 47 = .ok (.getfield 205, 3) := by decide +kernel
theorem d_X_messageArrives_50 : decode b_X_messageArrives 50 = .ok (.aaload, 1) := by decide +kernel
theorem d_X_messageArrives_51 : decode b_X_messageArrives 51 = .ok (.astore 4, 2) := by decide +kernel
theorem d_X_messageArrives_53 : decode b_X_messageArrives 53 = .ok (.iload_n 3, 1) := by decide +kernel
theorem d_X_messageArrives_54 : decode b_X_messageArrives 54 = .ok (.ifCond .lt 12, 3) := by decide +kernel
theorem d_X_messageArrives_57 : decode b_X_messageArrives 57 = .ok (.aload_n 0, 1) := by decide +kernel
theorem d_X_messageArrives_58 : decode b_X_messageArrives 58 = .ok (.aload_n 1, 1) := by decide +kernel
theorem d_X_messageArrives_59 : decode b_X_messageArrives 59 = .ok (.iload_n 3, 1) := by decide +kernel
theorem d_X_messageArrives_60 : decode b_X_messageArrives 60 = .ok (.invokevirtual 238, 3) := by decide +kernel
theorem d_X_messageArrives_63 : decode b_X_messageArrives 63 = .ok (.goto 39, 3) := by decide +kernel
theorem d_X_messageArrives_66 : decode b_X_messageArrives 66 = .ok (.aload 4, 2) := by decide +kernel
theorem d_X_messageArrives_68 : decode b_X_messageArrives 68 = .ok (.getfield 59, 3) := by decide +kernel
theorem d_X_messageArrives_71 : decode b_X_messageArrives 71 = .ok (.ifCond .eq 26, 3) := by decide +kernel
theorem d_X_messageArrives_74 : decode b_X_messageArrives 74 = .ok (.aload 4, 2) := by decide +kernel
theorem d_X_messageArrives_76 : decode b_X_messageArrives 76 = .ok (.getfield 172, 3) := by decide +kernel
theorem d_X_messageArrives_79 : decode b_X_messageArrives 79 = .ok (.invokevirtual 208, 3) := by decide +kernel
theorem d_X_messageArrives_82 : decode b_X_messageArrives 82 = .ok (.ifCond .ne 15, 3) := by decide +kernel
theorem d_X_messageArrives_85 : decode b_X_messageArrives 85 = .ok (.aload 4, 2) := by decide +kernel
theorem d_X_messageArrives_87 : decode b_X_messageArrives 87 = .ok (.getfield 172, 3) := by decide +kernel
theorem d_X_messageArrives_90 : decode b_X_messageArrives 90 = .ok (.aload_n 1, 1) := by decide +kernel
theorem d_X_messageArrives_91 : decode b_X_messageArrives 91 = .ok (.invokevirtual 195, 3) := by decide +kernel
theorem d_X_messageArrives_94 : decode b_X_messageArrives 94 = .ok (.goto 8, 3) := by decide +kernel
theorem d_X_messageArrives_97 : decode b_X_messageArrives 97 = .ok (.aload_n 0, 1) := by decide +kernel
theorem d_X_messageArrives_98 : decode b_X_messageArrives 98 = .ok (.aload_n 1, 1) := by decide +kernel
theorem d_X_messageArrives_99 : decode b_X_messageArrives 99 = .ok (.invokevirtual 212, 3) := by decide +kernel
theorem d_X_messageArrives_102 : decode b_X_messageArrives 102 = .ok (.return_, 1) := by decide +kernel
theorem d_X_greatestPriority_0 : decode b_X_greatestPriority 0 = .ok (.iconst (-1), 1) := by decide +kernel
theorem d_X_greatestPriority_1 : decode b_X_greatestPriority 1 = .ok (.istore_n 2, 1) := by decide +kernel
theorem d_X_greatestPriority_2 : decode b_X_greatestPriority 2 = .ok (.aload_n 0, 1) := by decide +kernel
theorem d_X_greatestPriority_3 : decode b_X_greatestPriority 3 = .ok (.getfield 25, 3) := by decide +kernel
theorem d_X_greatestPriority_6 : decode b_X_greatestPriority 6 = .ok (.astore_n 3, 1) := by decide +kernel
theorem d_X_greatestPriority_7 : decode b_X_greatestPriority 7 = .ok (.aload_n 3, 1) := by decide +kernel
theorem d_X_greatestPriority_8 : decode b_X_greatestPriority 8 = .ok (.arraylength, 1) := by decide +kernel
theorem d_X_greatestPriority_9 : decode b_X_greatestPriority 9 = .ok (.istore 4, 2) := by decide +kernel
theorem d_X_greatestPriority_11 : decode b_X_greatestPriority 11 = .ok (.iconst 0, 1) := by decide +kernel
theorem d_X_greatestPriority_12 : decode b_X_greatestPriority 12 = .ok (.istore 5, 2) := by decide +kernel
theorem d_X_greatestPriority_14 : decode b_X_greatestPriority 14 = .ok (.iload 5, 2) := by decide +kernel
theorem d_X_greatestPriority_16 : decode b_X_greatestPriority 16 = .ok (.iload 4, 2) := by decide +kernel
theorem d_X_greatestPriority_18 : decode b_X_greatestPriority 18 = .ok (.if_icmp .ge 39, 3) := by decide +kernel
theorem d_X_greatestPriority_21 : decode b_X_greatestPriority 21 = .ok (.aload_n 3, 1) := by decide +kernel
theorem d_X_greatestPriority_22 : decode b_X_greatestPriority 22 = .ok (.iload 5, 2) := by decide +kernel
theorem d_X_greatestPriority_24 : decode b_X_greatestPriority 24 = .ok (.aaload, 1) := by decide +kernel
theorem d_X_greatestPriority_25 : decode b_X_greatestPriority 25 = .ok (.astore 6, 2) := by decide +kernel
theorem d_X_greatestPriority_27 : decode b_X_greatestPriority 27 = .ok (.aload 6, 2) := by decide +kernel
theorem d_X_greatestPriority_29 : decode b_X_greatestPriority 29 = .ok (.iload_n 1, 1) := by decide +kernel
theorem d_X_greatestPriority_30 : decode b_X_greatestPriority 30 = .ok (.invokevirtual 185, 3) := by decide +kernel
theorem d_X_greatestPriority_33 : decode b_X_greatestPriority 33 = .ok (.ifCond .eq 18, 3) := by decide +kernel
theorem d_X_greatestPriority_36 : decode b_X_greatestPriority 36 = .ok (.aload 6, 2) := by decide +kernel
theorem d_X_greatestPriority_38 : decode b_X_greatestPriority 38 = .ok (.getfield 107, 3) := by decide +kernel
theorem d_X_greatestPriority_41 : decode b_X_greatestPriority 41 = .ok (.iload_n 2, 1) := by decide +kernel
theorem d_X_greatestPriority_42 : decode b_X_greatestPriority 42 = .ok (.if_icmp .le 9, 3) := by decide +kernel
theorem d_X_greatestPriority_45 : decode b_X_greatestPriority 45 = .ok (.aload 6, 2) := by decide +kernel
theorem d_X_greatestPriority_47 : decode b_X_greatestPriority 47 = .ok (.getfield 107, 3) := by decide +kernel
theorem d_X_greatestPriority_50 : decode b_X_greatestPriority 50 = .ok (.istore_n 2, 1) := by decide +kernel
theorem d_X_greatestPriority_51 : decode b_X_greatestPriority 51 = .ok (.iinc 5 1, 3) := by decide +kernel
theorem d_X_greatestPriority_54 : decode b_X_greatestPriority 54 = .ok (.goto (-40), 3) := by decide +kernel
theorem d_X_greatestPriority_57 : decode b_X_greatestPriority 57 = .ok (.iload_n 2, 1) := by decide +kernel
theorem d_X_greatestPriority_58 : decode b_X_greatestPriority 58 = .ok (.ireturn, 1) := by decide +kernel
theorem d_X_giveToPriority_0 : decode b_X_giveToPriority 0 = .ok (.aload_n 0, 1) := by decide +kernel
theorem d_X_giveToPriority_1 : decode b_X_giveToPriority 1 = .ok (.getfield 25, 3) := by decide +kernel
theorem d_X_giveToPriority_4 : decode b_X_giveToPriority 4 = .ok (.astore_n 3, 1) := by decide +kernel
theorem d_X_giveToPriority_5 : decode b_X_giveToPriority 5 = .ok (.aload_n 3, 1) := by decide +kernel
theorem d_X_giveToPriority_6 : decode b_X_giveToPriority 6 = .ok (.arraylength, 1) := by decide +kernel
theorem d_X_giveToPriority_7 : decode b_X_giveToPriority 7 = .ok (.istore 4, 2) := by decide +kernel
theorem d_X_giveToPriority_9 : decode b_X_giveToPriority 9 = .ok (.iconst 0, 1) := by decide +kernel
theorem d_X_giveToPriority_10 : decode b_X_giveToPriority 10 = .ok (.istore 5, 2) := by decide +kernel
theorem d_X_giveToPriority_12 : decode b_X_giveToPriority 12 = .ok (.iload 5, 2) := by decide +kernel
theorem d_X_giveToPriority_14 : decode b_X_giveToPriority 14 = .ok (.iload 4, 2) := by decide +kernel
theorem d_X_giveToPriority_16 : decode b_X_giveToPriority 16 = .ok (.if_icmp .ge 45, 3) := by decide +kernel
theorem d_X_giveToPriority_19 : decode b_X_giveToPriority 19 = .ok (.aload_n 3, 1) := by decide +kernel
theorem d_X_giveToPriority_20 : decode b_X_giveToPriority 20 = .ok (.iload 5, 2) := by decide +kernel
theorem d_X_giveToPriority_22 : decode b_X_giveToPriority 22 = .ok (.aaload, 1) := by decide +kernel
theorem d_X_giveToPriority_23 : decode b_X_giveToPriority 23 = .ok (.astore 6, 2) := by decide +kernel
theorem d_X_giveToPriority_25 : decode b_X_giveToPriority 25 = .ok (.aload 6, 2) := by decide +kernel
theorem d_X_giveToPriority_27 : decode b_X_giveToPriority 27 = .ok (.aload_n 1, 1) := by decide +kernel
theorem d_X_giveToPriority_28 : decode b_X_giveToPriority 28 = .ok (.getfield 205, 3) := by decide +kernel
theorem d_X_giveToPriority_31 : decode b_X_giveToPriority 31 = .ok (.invokevirtual 185, 3) := by decide +kernel
theorem d_X_giveToPriority_34 : decode b_X_giveToPriority 34 = .ok (.ifCond .eq 21, 3) := by decide +kernel
theorem d_X_giveToPriority_37 : decode b_X_giveToPriority 37 = .ok (.aload 6, 2) := by decide +kernel
theorem d_X_giveToPriority_39 : decode b_X_giveToPriority 39 = .ok (.getfield 107, 3) := by decide +kernel
theorem d_X_giveToPriority_42 : decode b_X_giveToPriority 42 = .ok (.iload_n 2, 1) := by decide +kernel
theorem d_X_giveToPriority_43 : decode b_X_giveToPriority 43 = .ok (.if_icmp .ne 12, 3) := by decide +kernel
theorem d_X_giveToPriority_46 : decode b_X_giveToPriority 46 = .ok (.aload 6, 2) := by decide +kernel
theorem d_X_giveToPriority_48 : decode b_X_giveToPriority 48 = .ok (.getfield 74, 3) := by decide +kernel
theorem d_X_giveToPriority_51 : decode b_X_giveToPriority 51 = .ok (.aload_n 1, 1) := by decide +kernel
theorem d_X_giveToPriority_52 : decode b_X_giveToPriority 52 = .ok (.invokevirtual 195, 3) := by decide +kernel
theorem d_X_giveToPriority_55 : decode b_X_giveToPriority 55 = .ok (.iinc 5 1, 3) := by decide +kernel
theorem d_X_giveToPriority_58 : decode b_X_giveToPriority 58 = .ok (.goto (-46), 3) := by decide +kernel
theorem d_X_giveToPriority_61 : decode b_X_giveToPriority 61 = .ok (.return_, 1) := by decide +kernel
theorem d_X_askArrives_0 : decode b_X_askArrives 0 = .ok (.aload_n 0, 1) := by decide +kernel
theorem d_X_askArrives_1 : decode b_X_askArrives 1 = .ok (.getfield 16, 3) := by decide +kernel
theorem d_X_askArrives_4 : decode b_X_askArrives 4 = .ok (.aload_n 1, 1) := by decide +kernel
theorem d_X_askArrives_5 : decode b_X_askArrives 5 = .ok (.getfield 205, 3) := by decide +kernel
theorem d_X_askArrives_8 : decode b_X_askArrives 8 = .ok (.aaload, 1) := by decide +kernel
theorem d_X_askArrives_9 : decode b_X_askArrives 9 = .ok (.astore_n 2, 1) := by decide +kernel
theorem d_X_askArrives_10 : decode b_X_askArrives 10 = .ok (.aload_n 2, 1) := by decide +kernel
theorem d_X_askArrives_11 : decode b_X_askArrives 11 = .ok (.aload_n 1, 1) := by decide +kernel
theorem d_X_askArrives_12 : decode b_X_askArrives 12 = .ok (.getfield 151, 3) := by decide +kernel
theorem d_X_askArrives_15 : decode b_X_askArrives 15 = .ok (.iconst 2, 1) := by decide +kernel
theorem d_X_askArrives_16 : decode b_X_askArrives 16 = .ok (.invokevirtual 126, 3) := by decide +kernel
theorem d_X_askArrives_19 : decode b_X_askArrives 19 = .ok (.ifCond .eq 29, 3) := by decide +kernel
theorem d_X_askArrives_22 : decode b_X_askArrives 22 = .ok (.aload_n 0, 1) := by decide +kernel
theorem d_X_askArrives_23 : decode b_X_askArrives 23 = .ok (.new 7, 3) := by decide +kernel
theorem d_X_askArrives_26 : decode b_X_askArrives 26 = .ok (.dup, 1) := by decide +kernel
theorem d_X_askArrives_27 : decode b_X_askArrives 27 = .ok (.iconst 5, 1) := by decide +kernel
theorem d_X_askArrives_28 : decode b_X_askArrives 28 = .ok (.aload_n 1, 1) := by decide +kernel
theorem d_X_askArrives_29 : decode b_X_askArrives 29 = .ok (.getfield 205, 3) := by decide +kernel
theorem d_X_askArrives_32 : decode b_X_askArrives 32 = .ok (.iconst (-1), 1) := by decide +kernel
theorem d_X_askArrives_33 : decode b_X_askArrives 33 = .ok (.iconst 0, 1) := by decide +kernel
theorem d_X_askArrives_34 : decode b_X_askArrives 34 = .ok (.aload_n 1, 1) := by decide +kernel
theorem d_X_askArrives_35 : decode b_X_askArrives 35 = .ok (.getfield 151, 3) := by decide +kernel
theorem d_X_askArrives_38 : decode b_X_askArrives 38 = .ok (.iconst (-1), 1) := by decide +kernel
theorem d_X_askArrives_39 : decode b_X_askArrives 39 = .ok (.invokespecial 11, 3) := by decide +kernel
theorem d_X_askArrives_42 : decode b_X_askArrives 42 = .ok (.invokevirtual 224, 3) := by decide +kernel
theorem d_X_askArrives_45 : decode b_X_askArrives 45 = .ok (.goto 25, 3) := by decide +kernel
theorem d_X_askArrives_48 : decode b_X_askArrives 48 = .ok (.aload_n 2, 1) := by decide +kernel
theorem d_X_askArrives_49 : decode b_X_askArrives 49 = .ok (.getfield 59, 3) := by decide +kernel
theorem d_X_askArrives_52 : decode b_X_askArrives 52 = .ok (.ifCond .eq 18, 3) := by decide +kernel
theorem d_X_askArrives_55 : decode b_X_askArrives 55 = .ok (.aload_n 2, 1) := by decide +kernel
theorem d_X_askArrives_56 : decode b_X_askArrives 56 = .ok (.aload_n 1, 1) := by decide +kernel
theorem d_X_askArrives_57 : decode b_X_askArrives 57 = .ok (.getfield 151, 3) := by decide +kernel
theorem d_X_askArrives_60 : decode b_X_askArrives 60 = .ok (.bipush 8, 2) := by decide +kernel
theorem d_X_askArrives_62 : decode b_X_askArrives 62 = .ok (.invokevirtual 198, 3) := by decide +kernel
theorem d_X_askArrives_65 : decode b_X_askArrives 65 = .ok (.aload_n 0, 1) := by decide +kernel
theorem d_X_askArrives_66 : decode b_X_askArrives 66 = .ok (.aload_n 1, 1) := by decide +kernel
theorem d_X_askArrives_67 : decode b_X_askArrives 67 = .ok (.invokevirtual 215, 3) := by decide +kernel
theorem d_X_askArrives_70 : decode b_X_askArrives 70 = .ok (.return_, 1) := by decide +kernel
theorem d_X_grantArrives_0 : decode b_X_grantArrives 0 = .ok (.aload_n 0, 1) := by decide +kernel
theorem d_X_grantArrives_1 : decode b_X_grantArrives 1 = .ok (.getfield 16, 3) := by decide +kernel
theorem d_X_grantArrives_4 : decode b_X_grantArrives 4 = .ok (.aload_n 1, 1) := by decide +kernel
theorem d_X_grantArrives_5 : decode b_X_grantArrives 5 = .ok (.getfield 205, 3) := by decide +kernel
theorem d_X_grantArrives_8 : decode b_X_grantArrives 8 = .ok (.aaload, 1) := by decide +kernel
theorem d_X_grantArrives_9 : decode b_X_grantArrives 9 = .ok (.astore_n 2, 1) := by decide +kernel
theorem d_X_grantArrives_10 : decode b_X_grantArrives 10 = .ok (.aload_n 2, 1) := by decide +kernel
theorem d_X_grantArrives_11 : decode b_X_grantArrives 11 = .ok (.aload_n 1, 1) := by decide +kernel
theorem d_X_grantArrives_12 : decode b_X_grantArrives 12 = .ok (.getfield 151, 3) := by decide +kernel
theorem d_X_grantArrives_15 : decode b_X_grantArrives 15 = .ok (.iconst 4, 1) := by decide +kernel
theorem d_X_grantArrives_16 : decode b_X_grantArrives 16 = .ok (.invokevirtual 126, 3) := by decide +kernel
theorem d_X_grantArrives_19 : decode b_X_grantArrives 19 = .ok (.ifCond .eq 26, 3) := by decide +kernel
theorem d_X_grantArrives_22 : decode b_X_grantArrives 22 = .ok (.aload_n 2, 1) := by decide +kernel
theorem d_X_grantArrives_23 : decode b_X_grantArrives 23 = .ok (.aload_n 1, 1) := by decide +kernel
theorem d_X_grantArrives_24 : decode b_X_grantArrives 24 = .ok (.getfield 151, 3) := by decide +kernel
theorem d_X_grantArrives_27 : decode b_X_grantArrives 27 = .ok (.iconst 1, 1) := by decide +kernel
theorem d_X_grantArrives_28 : decode b_X_grantArrives 28 = .ok (.invokevirtual 198, 3) := by decide +kernel
theorem d_X_grantArrives_31 : decode b_X_grantArrives 31 = .ok (.aload_n 2, 1) := by decide +kernel
theorem d_X_grantArrives_32 : decode b_X_grantArrives 32 = .ok (.aload_n 1, 1) := by decide +kernel
theorem d_X_grantArrives_33 : decode b_X_grantArrives 33 = .ok (.getfield 151, 3) := by decide +kernel
theorem d_X_grantArrives_36 : decode b_X_grantArrives 36 = .ok (.iconst 4, 1) := by decide +kernel
theorem d_X_grantArrives_37 : decode b_X_grantArrives 37 = .ok (.invokevirtual 202, 3) := by decide +kernel
theorem d_X_grantArrives_40 : decode b_X_grantArrives 40 = .ok (.aload_n 0, 1) := by decide +kernel
theorem d_X_grantArrives_41 : decode b_X_grantArrives 41 = .ok (.aload_n 1, 1) := by decide +kernel
theorem d_X_grantArrives_42 : decode b_X_grantArrives 42 = .ok (.invokevirtual 215, 3) := by decide +kernel
theorem d_X_grantArrives_45 : decode b_X_grantArrives 45 = .ok (.return_, 1) := by decide +kernel
theorem d_X_endingArrives_0 : decode b_X_endingArrives 0 = .ok (.aload_n 0, 1) := by decide +kernel
theorem d_X_endingArrives_1 : decode b_X_endingArrives 1 = .ok (.getfield 16, 3) := by decide +kernel
theorem d_X_endingArrives_4 : decode b_X_endingArrives 4 = .ok (.aload_n 1, 1) := by decide +kernel
theorem d_X_endingArrives_5 : decode b_X_endingArrives 5 = .ok (.getfield 205, 3) := by decide +kernel
theorem d_X_endingArrives_8 : decode b_X_endingArrives 8 = .ok (.aaload, 1) := by decide +kernel
theorem d_X_endingArrives_9 : decode b_X_endingArrives 9 = .ok (.astore_n 3, 1) := by decide +kernel
theorem d_X_endingArrives_10 : decode b_X_endingArrives 10 = .ok (.aload_n 3, 1) := by decide +kernel
theorem d_X_endingArrives_11 : decode b_X_endingArrives 11 = .ok (.aload_n 1, 1) := by decide +kernel
theorem d_X_endingArrives_12 : decode b_X_endingArrives 12 = .ok (.getfield 151, 3) := by decide +kernel
theorem d_X_endingArrives_15 : decode b_X_endingArrives 15 = .ok (.iload_n 2, 1) := by decide +kernel
theorem d_X_endingArrives_16 : decode b_X_endingArrives 16 = .ok (.invokevirtual 126, 3) := by decide +kernel
theorem d_X_endingArrives_19 : decode b_X_endingArrives 19 = .ok (.ifCond .eq 17, 3) := by decide +kernel
theorem d_X_endingArrives_22 : decode b_X_endingArrives 22 = .ok (.aload_n 3, 1) := by decide +kernel
theorem d_X_endingArrives_23 : decode b_X_endingArrives 23 = .ok (.aload_n 1, 1) := by decide +kernel
theorem d_X_endingArrives_24 : decode b_X_endingArrives 24 = .ok (.getfield 151, 3) := by decide +kernel
theorem d_X_endingArrives_27 : decode b_X_endingArrives 27 = .ok (.iload_n 2, 1) := by decide +kernel
theorem d_X_endingArrives_28 : decode b_X_endingArrives 28 = .ok (.invokevirtual 202, 3) := by decide +kernel
theorem d_X_endingArrives_31 : decode b_X_endingArrives 31 = .ok (.aload_n 0, 1) := by decide +kernel
theorem d_X_endingArrives_32 : decode b_X_endingArrives 32 = .ok (.aload_n 1, 1) := by decide +kernel
theorem d_X_endingArrives_33 : decode b_X_endingArrives 33 = .ok (.invokevirtual 215, 3) := by decide +kernel
theorem d_X_endingArrives_36 : decode b_X_endingArrives 36 = .ok (.return_, 1) := by decide +kernel
theorem d_X_keptForAll_0 : decode b_X_keptForAll 0 = .ok (.iconst 0, 1) := by decide +kernel
theorem d_X_keptForAll_1 : decode b_X_keptForAll 1 = .ok (.istore_n 1, 1) := by decide +kernel
theorem d_X_keptForAll_2 : decode b_X_keptForAll 2 = .ok (.aload_n 0, 1) := by decide +kernel
theorem d_X_keptForAll_3 : decode b_X_keptForAll 3 = .ok (.getfield 16, 3) := by decide +kernel
theorem d_X_keptForAll_6 : decode b_X_keptForAll 6 = .ok (.astore_n 2, 1) := by decide +kernel
theorem d_X_keptForAll_7 : decode b_X_keptForAll 7 = .ok (.aload_n 2, 1) := by decide +kernel
theorem d_X_keptForAll_8 : decode b_X_keptForAll 8 = .ok (.arraylength, 1) := by decide +kernel
theorem d_X_keptForAll_9 : decode b_X_keptForAll 9 = .ok (.istore_n 3, 1) := by decide +kernel
theorem d_X_keptForAll_10 : decode b_X_keptForAll 10 = .ok (.iconst 0, 1) := by decide +kernel
theorem d_X_keptForAll_11 : decode b_X_keptForAll 11 = .ok (.istore 4, 2) := by decide +kernel
theorem d_X_keptForAll_13 : decode b_X_keptForAll 13 = .ok (.iload 4, 2) := by decide +kernel
theorem d_X_keptForAll_15 : decode b_X_keptForAll 15 = .ok (.iload_n 3, 1) := by decide +kernel
theorem d_X_keptForAll_16 : decode b_X_keptForAll 16 = .ok (.if_icmp .ge 26, 3) := by decide +kernel
theorem d_X_keptForAll_19 : decode b_X_keptForAll 19 = .ok (.aload_n 2, 1) := by decide +kernel
theorem d_X_keptForAll_20 : decode b_X_keptForAll 20 = .ok (.iload 4, 2) := by decide +kernel
theorem d_X_keptForAll_22 : decode b_X_keptForAll 22 = .ok (.aaload, 1) := by decide +kernel
theorem d_X_keptForAll_23 : decode b_X_keptForAll 23 = .ok (.astore 5, 2) := by decide +kernel
theorem d_X_keptForAll_25 : decode b_X_keptForAll 25 = .ok (.iload_n 1, 1) := by decide +kernel
theorem d_X_keptForAll_26 : decode b_X_keptForAll 26 = .ok (.aload 5, 2) := by decide +kernel
theorem d_X_keptForAll_28 : decode b_X_keptForAll 28 = .ok (.getfield 172, 3) := by decide +kernel
theorem d_X_keptForAll_31 : decode b_X_keptForAll 31 = .ok (.getfield 120, 3) := by decide +kernel
theorem d_X_keptForAll_34 : decode b_X_keptForAll 34 = .ok (.iadd, 1) := by decide +kernel
theorem d_X_keptForAll_35 : decode b_X_keptForAll 35 = .ok (.istore_n 1, 1) := by decide +kernel
theorem d_X_keptForAll_36 : decode b_X_keptForAll 36 = .ok (.iinc 4 1, 3) := by decide +kernel
theorem d_X_keptForAll_39 : decode b_X_keptForAll 39 = .ok (.goto (-26), 3) := by decide +kernel
theorem d_X_keptForAll_42 : decode b_X_keptForAll 42 = .ok (.iload_n 1, 1) := by decide +kernel
theorem d_X_keptForAll_43 : decode b_X_keptForAll 43 = .ok (.ireturn, 1) := by decide +kernel
theorem d_X_lostByAll_0 : decode b_X_lostByAll 0 = .ok (.iconst 0, 1) := by decide +kernel
theorem d_X_lostByAll_1 : decode b_X_lostByAll 1 = .ok (.istore_n 1, 1) := by decide +kernel
theorem d_X_lostByAll_2 : decode b_X_lostByAll 2 = .ok (.aload_n 0, 1) := by decide +kernel
theorem d_X_lostByAll_3 : decode b_X_lostByAll 3 = .ok (.getfield 25, 3) := by decide +kernel
theorem d_X_lostByAll_6 : decode b_X_lostByAll 6 = .ok (.astore_n 2, 1) := by decide +kernel
theorem d_X_lostByAll_7 : decode b_X_lostByAll 7 = .ok (.aload_n 2, 1) := by decide +kernel
theorem d_X_lostByAll_8 : decode b_X_lostByAll 8 = .ok (.arraylength, 1) := by decide +kernel
theorem d_X_lostByAll_9 : decode b_X_lostByAll 9 = .ok (.istore_n 3, 1) := by decide +kernel
theorem d_X_lostByAll_10 : decode b_X_lostByAll 10 = .ok (.iconst 0, 1) := by decide +kernel
theorem d_X_lostByAll_11 : decode b_X_lostByAll 11 = .ok (.istore 4, 2) := by decide +kernel
theorem d_X_lostByAll_13 : decode b_X_lostByAll 13 = .ok (.iload 4, 2) := by decide +kernel
theorem d_X_lostByAll_15 : decode b_X_lostByAll 15 = .ok (.iload_n 3, 1) := by decide +kernel
theorem d_X_lostByAll_16 : decode b_X_lostByAll 16 = .ok (.if_icmp .ge 26, 3) := by decide +kernel
theorem d_X_lostByAll_19 : decode b_X_lostByAll 19 = .ok (.aload_n 2, 1) := by decide +kernel
theorem d_X_lostByAll_20 : decode b_X_lostByAll 20 = .ok (.iload 4, 2) := by decide +kernel
theorem d_X_lostByAll_22 : decode b_X_lostByAll 22 = .ok (.aaload, 1) := by decide +kernel
theorem d_X_lostByAll_23 : decode b_X_lostByAll 23 = .ok (.astore 5, 2) := by decide +kernel
theorem d_X_lostByAll_25 : decode b_X_lostByAll 25 = .ok (.iload_n 1, 1) := by decide +kernel
theorem d_X_lostByAll_26 : decode b_X_lostByAll 26 = .ok (.aload 5, 2) := by decide +kernel
theorem d_X_lostByAll_28 : decode b_X_lostByAll 28 = .ok (.getfield 74, 3) := by decide +kernel
theorem d_X_lostByAll_31 : decode b_X_lostByAll 31 = .ok (.getfield 241, 3) := by decide +kernel
theorem d_X_lostByAll_34 : decode b_X_lostByAll 34 = .ok (.iadd, 1) := by decide +kernel
theorem d_X_lostByAll_35 : decode b_X_lostByAll 35 = .ok (.istore_n 1, 1) := by decide +kernel
theorem d_X_lostByAll_36 : decode b_X_lostByAll 36 = .ok (.iinc 4 1, 3) := by decide +kernel
theorem d_X_lostByAll_39 : decode b_X_lostByAll 39 = .ok (.goto (-26), 3) := by decide +kernel
theorem d_X_lostByAll_42 : decode b_X_lostByAll 42 = .ok (.iload_n 1, 1) := by decide +kernel
theorem d_X_lostByAll_43 : decode b_X_lostByAll 43 = .ok (.ireturn, 1) := by decide +kernel
theorem d_A_init_0 : decode b_A_init 0 = .ok (.aload_n 0, 1) := by decide +kernel
theorem d_A_init_1 : decode b_A_init 1 = .ok (.invokespecial 3, 3) := by decide +kernel
theorem d_A_init_4 : decode b_A_init 4 = .ok (.aload_n 0, 1) := by decide +kernel
theorem d_A_init_5 : decode b_A_init 5 = .ok (.bipush 8, 2) := by decide +kernel
theorem d_A_init_7 : decode b_A_init 7 = .ok (.newarray .int, 2) := by decide +kernel
theorem d_A_init_9 : decode b_A_init 9 = .ok (.putfield 9, 3) := by decide +kernel
theorem d_A_init_12 : decode b_A_init 12 = .ok (.aload_n 0, 1) := by decide +kernel
theorem d_A_init_13 : decode b_A_init 13 = .ok (.new 15, 3) := by decide +kernel
theorem d_A_init_16 : decode b_A_init 16 = .ok (.dup, 1) := by decide +kernel
theorem d_A_init_17 : decode b_A_init 17 = .ok (.iconst 4, 1) := by decide +kernel
theorem d_A_init_18 : decode b_A_init 18 = .ok (.aload_n 1, 1) := by decide +kernel
theorem d_A_init_19 : decode b_A_init 19 = .ok (.invokespecial 17, 3) := by decide +kernel
theorem d_A_init_22 : decode b_A_init 22 = .ok (.putfield 20, 3) := by decide +kernel
theorem d_A_init_25 : decode b_A_init 25 = .ok (.aload_n 0, 1) := by decide +kernel
theorem d_A_init_26 : decode b_A_init 26 = .ok (.iconst 0, 1) := by decide +kernel
theorem d_A_init_27 : decode b_A_init 27 = .ok (.putfield 24, 3) := by decide +kernel
theorem d_A_init_30 : decode b_A_init 30 = .ok (.aload_n 0, 1) := by decide +kernel
theorem d_A_init_31 : decode b_A_init 31 = .ok (.iconst 0, 1) := by decide +kernel
theorem d_A_init_32 : decode b_A_init 32 = .ok (.putfield 28, 3) := by decide +kernel
theorem d_A_init_35 : decode b_A_init 35 = .ok (.return_, 1) := by decide +kernel
theorem d_A_hasAny_0 : decode b_A_hasAny 0 = .ok (.aload_n 0, 1) := by decide +kernel
theorem d_A_hasAny_1 : decode b_A_hasAny 1 = .ok (.getfield 9, 3) := by decide +kernel
theorem d_A_hasAny_4 : decode b_A_hasAny 4 = .ok (.iload_n 1, 1) := by decide +kernel
theorem d_A_hasAny_5 : decode b_A_hasAny 5 = .ok (.iaload, 1) := by decide +kernel
theorem d_A_hasAny_6 : decode b_A_hasAny 6 = .ok (.iload_n 2, 1) := by decide +kernel
theorem d_A_hasAny_7 : decode b_A_hasAny 7 = .ok (.iand, 1) := by decide +kernel
theorem d_A_hasAny_8 : decode b_A_hasAny 8 = .ok (.ifCond .eq 7, 3) := by decide +kernel
theorem d_A_hasAny_11 : decode b_A_hasAny 11 = .ok (.iconst 1, 1) := by decide +kernel
theorem d_A_hasAny_12 : decode b_A_hasAny 12 = .ok (.goto 4, 3) := by decide +kernel
theorem d_A_hasAny_15 : decode b_A_hasAny 15 = .ok (.iconst 0, 1) := by decide +kernel
theorem d_A_hasAny_16 : decode b_A_hasAny 16 = .ok (.ireturn, 1) := by decide +kernel
theorem d_A_addMark_0 : decode b_A_addMark 0 = .ok (.aload_n 0, 1) := by decide +kernel
theorem d_A_addMark_1 : decode b_A_addMark 1 = .ok (.getfield 9, 3) := by decide +kernel
theorem d_A_addMark_4 : decode b_A_addMark 4 = .ok (.iload_n 1, 1) := by decide +kernel
theorem d_A_addMark_5 : decode b_A_addMark 5 = .ok (.dup2, 1) := by decide +kernel
theorem d_A_addMark_6 : decode b_A_addMark 6 = .ok (.iaload, 1) := by decide +kernel
theorem d_A_addMark_7 : decode b_A_addMark 7 = .ok (.iload_n 2, 1) := by decide +kernel
theorem d_A_addMark_8 : decode b_A_addMark 8 = .ok (.ior, 1) := by decide +kernel
theorem d_A_addMark_9 : decode b_A_addMark 9 = .ok (.iastore, 1) := by decide +kernel
theorem d_A_addMark_10 : decode b_A_addMark 10 = .ok (.return_, 1) := by decide +kernel
theorem d_A_dropMarks_0 : decode b_A_dropMarks 0 = .ok (.aload_n 0, 1) := by decide +kernel
theorem d_A_dropMarks_1 : decode b_A_dropMarks 1 = .ok (.getfield 9, 3) := by decide +kernel
theorem d_A_dropMarks_4 : decode b_A_dropMarks 4 = .ok (.iload_n 1, 1) := by decide +kernel
theorem d_A_dropMarks_5 : decode b_A_dropMarks 5 = .ok (.dup2, 1) := by decide +kernel
theorem d_A_dropMarks_6 : decode b_A_dropMarks 6 = .ok (.iaload, 1) := by decide +kernel
theorem d_A_dropMarks_7 : decode b_A_dropMarks 7 = .ok (.iload_n 2, 1) := by decide +kernel
theorem d_A_dropMarks_8 : decode b_A_dropMarks 8 = .ok (.iconst (-1), 1) := by decide +kernel
theorem d_A_dropMarks_9 : decode b_A_dropMarks 9 = .ok (.ixor, 1) := by decide +kernel
theorem d_A_dropMarks_10 : decode b_A_dropMarks 10 = .ok (.iand, 1) := by decide +kernel
theorem d_A_dropMarks_11 : decode b_A_dropMarks 11 = .ok (.iastore, 1) := by decide +kernel
theorem d_A_dropMarks_12 : decode b_A_dropMarks 12 = .ok (.return_, 1) := by decide +kernel
theorem d_C_init_0 : decode b_C_init 0 = .ok (.aload_n 0, 1) := by decide +kernel
theorem d_C_init_1 : decode b_C_init 1 = .ok (.invokespecial 3, 3) := by decide +kernel
theorem d_C_init_4 : decode b_C_init 4 = .ok (.aload_n 0, 1) := by decide +kernel
theorem d_C_init_5 : decode b_C_init 5 = .ok (.new 9, 3) := by decide +kernel
theorem d_C_init_8 : decode b_C_init 8 = .ok (.dup, 1) := by decide +kernel
theorem d_C_init_9 : decode b_C_init 9 = .ok (.bipush 10, 2) := by decide +kernel
theorem d_C_init_11 : decode b_C_init 11 = .ok (.aload_n 1, 1) := by decide +kernel
theorem d_C_init_12 : decode b_C_init 12 = .ok (.invokespecial 11, 3) := by decide +kernel
theorem d_C_init_15 : decode b_C_init 15 = .ok (.putfield 14, 3) := by decide +kernel
theorem d_C_init_18 : decode b_C_init 18 = .ok (.aload_n 0, 1) := by decide +kernel
theorem d_C_init_19 : decode b_C_init 19 = .ok (.iconst 0, 1) := by decide +kernel
theorem d_C_init_20 : decode b_C_init 20 = .ok (.putfield 20, 3) := by decide +kernel
theorem d_C_init_23 : decode b_C_init 23 = .ok (.aload_n 0, 1) := by decide +kernel
theorem d_C_init_24 : decode b_C_init 24 = .ok (.iconst (-1), 1) := by decide +kernel
theorem d_C_init_25 : decode b_C_init 25 = .ok (.putfield 24, 3) := by decide +kernel
theorem d_C_init_28 : decode b_C_init 28 = .ok (.aload_n 0, 1) := by decide +kernel
theorem d_C_init_29 : decode b_C_init 29 = .ok (.iconst (-1), 1) := by decide +kernel
theorem d_C_init_30 : decode b_C_init 30 = .ok (.putfield 27, 3) := by decide +kernel
theorem d_C_init_33 : decode b_C_init 33 = .ok (.aload_n 0, 1) := by decide +kernel
theorem d_C_init_34 : decode b_C_init 34 = .ok (.iconst 0, 1) := by decide +kernel
theorem d_C_init_35 : decode b_C_init 35 = .ok (.putfield 30, 3) := by decide +kernel
theorem d_C_init_38 : decode b_C_init 38 = .ok (.aload_n 0, 1) := by decide +kernel
theorem d_C_init_39 : decode b_C_init 39 = .ok (.iconst 0, 1) := by decide +kernel
theorem d_C_init_40 : decode b_C_init 40 = .ok (.putfield 33, 3) := by decide +kernel
theorem d_C_init_43 : decode b_C_init 43 = .ok (.aload_n 0, 1) := by decide +kernel
theorem d_C_init_44 : decode b_C_init 44 = .ok (.iconst 0, 1) := by decide +kernel
theorem d_C_init_45 : decode b_C_init 45 = .ok (.putfield 36, 3) := by decide +kernel
theorem d_C_init_48 : decode b_C_init 48 = .ok (.return_, 1) := by decide +kernel
theorem d_C_isAvailableFor_0 : decode b_C_isAvailableFor 0 = .ok (.aload_n 0, 1) := by decide +kernel
theorem d_C_isAvailableFor_1 : decode b_C_isAvailableFor 1 = .ok (.getfield 36, 3) := by decide +kernel
theorem d_C_isAvailableFor_4 : decode b_C_isAvailableFor 4 = .ok (.ifCond .eq 15, 3) := by decide +kernel
theorem d_C_isAvailableFor_7 : decode b_C_isAvailableFor 7 = .ok (.aload_n 0, 1) := by decide +kernel
theorem d_C_isAvailableFor_8 : decode b_C_isAvailableFor 8 = .ok (.getfield 24, 3) := by decide +kernel
theorem d_C_isAvailableFor_11 : decode b_C_isAvailableFor 11 = .ok (.iload_n 1, 1) := by decide +kernel
theorem d_C_isAvailableFor_12 : decode b_C_isAvailableFor 12 = .ok (.if_icmp .ne 7, 3) := by decide +kernel
theorem d_C_isAvailableFor_15 : decode b_C_isAvailableFor 15 = .ok (.iconst 1, 1) := by decide +kernel
theorem d_C_isAvailableFor_16 : decode b_C_isAvailableFor 16 = .ok (.goto 4, 3) := by decide +kernel
theorem d_C_isAvailableFor_19 : decode b_C_isAvailableFor 19 = .ok (.iconst 0, 1) := by decide +kernel
theorem d_C_isAvailableFor_20 : decode b_C_isAvailableFor 20 = .ok (.ireturn, 1) := by decide +kernel
theorem d_Z_init_0 : decode b_Z_init 0 = .ok (.aload_n 0, 1) := by decide +kernel
theorem d_Z_init_1 : decode b_Z_init 1 = .ok (.invokespecial 1, 3) := by decide +kernel
theorem d_Z_init_4 : decode b_Z_init 4 = .ok (.aload_n 0, 1) := by decide +kernel
theorem d_Z_init_5 : decode b_Z_init 5 = .ok (.iload_n 1, 1) := by decide +kernel
theorem d_Z_init_6 : decode b_Z_init 6 = .ok (.putfield 7, 3) := by decide +kernel
theorem d_Z_init_9 : decode b_Z_init 9 = .ok (.aload_n 0, 1) := by decide +kernel
theorem d_Z_init_10 : decode b_Z_init 10 = .ok (.iload_n 2, 1) := by decide +kernel
theorem d_Z_init_11 : decode b_Z_init 11 = .ok (.putfield 13, 3) := by decide +kernel
theorem d_Z_init_14 : decode b_Z_init 14 = .ok (.aload_n 0, 1) := by decide +kernel
theorem d_Z_init_15 : decode b_Z_init 15 = .ok (.iload_n 3, 1) := by decide +kernel
theorem d_Z_init_16 : decode b_Z_init 16 = .ok (.putfield 16, 3) := by decide +kernel
theorem d_Z_init_19 : decode b_Z_init 19 = .ok (.aload_n 0, 1) := by decide +kernel
theorem d_Z_init_20 : decode b_Z_init 20 = .ok (.iload 4, 2) := by decide +kernel
theorem d_Z_init_22 : decode b_Z_init 22 = .ok (.putfield 19, 3) := by decide +kernel
theorem d_Z_init_25 : decode b_Z_init 25 = .ok (.aload_n 0, 1) := by decide +kernel
theorem d_Z_init_26 : decode b_Z_init 26 = .ok (.iload 5, 2) := by decide +kernel
theorem d_Z_init_28 : decode b_Z_init 28 = .ok (.putfield 22, 3) := by decide +kernel
theorem d_Z_init_31 : decode b_Z_init 31 = .ok (.aload_n 0, 1) := by decide +kernel
theorem d_Z_init_32 : decode b_Z_init 32 = .ok (.iload 6, 2) := by decide +kernel
theorem d_Z_init_34 : decode b_Z_init 34 = .ok (.putfield 25, 3) := by decide +kernel
theorem d_Z_init_37 : decode b_Z_init 37 = .ok (.return_, 1) := by decide +kernel
theorem d_Q_init_0 : decode b_Q_init 0 = .ok (.aload_n 0, 1) := by decide +kernel
theorem d_Q_init_1 : decode b_Q_init 1 = .ok (.invokespecial 1, 3) := by decide +kernel
theorem d_Q_init_4 : decode b_Q_init 4 = .ok (.aload_n 0, 1) := by decide +kernel
theorem d_Q_init_5 : decode b_Q_init 5 = .ok (.iload_n 1, 1) := by decide +kernel
theorem d_Q_init_6 : decode b_Q_init 6 = .ok (.anewarray 7, 3) := by decide +kernel
theorem d_Q_init_9 : decode b_Q_init 9 = .ok (.putfield 9, 3) := by decide +kernel
theorem d_Q_init_12 : decode b_Q_init 12 = .ok (.iconst 0, 1) := by decide +kernel
theorem d_Q_init_13 : decode b_Q_init 13 = .ok (.istore_n 3, 1) := by decide +kernel
theorem d_Q_init_14 : decode b_Q_init 14 = .ok (.iload_n 3, 1) := by decide +kernel
theorem d_Q_init_15 : decode b_Q_init 15 = .ok (.iload_n 1, 1) := by decide +kernel
theorem d_Q_init_16 : decode b_Q_init 16 = .ok (.if_icmp .ge 16, 3) := by decide +kernel
theorem d_Q_init_19 : decode b_Q_init 19 = .ok (.aload_n 0, 1) := by decide +kernel
theorem d_Q_init_20 : decode b_Q_init 20 = .ok (.getfield 9, 3) := by decide +kernel
theorem d_Q_init_23 : decode b_Q_init 23 = .ok (.iload_n 3, 1) := by decide +kernel
theorem d_Q_init_24 : decode b_Q_init 24 = .ok (.aload_n 2, 1) := by decide +kernel
theorem d_Q_init_25 : decode b_Q_init 25 = .ok (.aastore, 1) := by decide +kernel
theorem d_Q_init_26 : decode b_Q_init 26 = .ok (.iinc 3 1, 3) := by decide +kernel
theorem d_Q_init_29 : decode b_Q_init 29 = .ok (.goto (-15), 3) := by decide +kernel
theorem d_Q_init_32 : decode b_Q_init 32 = .ok (.aload_n 0, 1) := by decide +kernel
theorem d_Q_init_33 : decode b_Q_init 33 = .ok (.iconst 0, 1) := by decide +kernel
theorem d_Q_init_34 : decode b_Q_init 34 = .ok (.putfield 15, 3) := by decide +kernel
theorem d_Q_init_37 : decode b_Q_init 37 = .ok (.aload_n 0, 1) := by decide +kernel
theorem d_Q_init_38 : decode b_Q_init 38 = .ok (.iconst 0, 1) := by decide +kernel
theorem d_Q_init_39 : decode b_Q_init 39 = .ok (.putfield 19, 3) := by decide +kernel
theorem d_Q_init_42 : decode b_Q_init 42 = .ok (.return_, 1) := by decide +kernel
theorem d_Q_isFull_0 : decode b_Q_isFull 0 = .ok (.aload_n 0, 1) := by decide +kernel
theorem d_Q_isFull_1 : decode b_Q_isFull 1 = .ok (.getfield 15, 3) := by decide +kernel
theorem d_Q_isFull_4 : decode b_Q_isFull 4 = .ok (.aload_n 0, 1) := by decide +kernel
theorem d_Q_isFull_5 : decode b_Q_isFull 5 = .ok (.getfield 9, 3) := by decide +kernel
theorem d_Q_isFull_8 : decode b_Q_isFull 8 = .ok (.arraylength, 1) := by decide +kernel
theorem d_Q_isFull_9 : decode b_Q_isFull 9 = .ok (.if_icmp .lt 7, 3) := by decide +kernel
theorem d_Q_isFull_12 : decode b_Q_isFull 12 = .ok (.iconst 1, 1) := by decide +kernel
theorem d_Q_isFull_13 : decode b_Q_isFull 13 = .ok (.goto 4, 3) := by decide +kernel
theorem d_Q_isFull_16 : decode b_Q_isFull 16 = .ok (.iconst 0, 1) := by decide +kernel
theorem d_Q_isFull_17 : decode b_Q_isFull 17 = .ok (.ireturn, 1) := by decide +kernel
theorem d_Q_add_0 : decode b_Q_add 0 = .ok (.aload_n 0, 1) := by decide +kernel
theorem d_Q_add_1 : decode b_Q_add 1 = .ok (.getfield 15, 3) := by decide +kernel
theorem d_Q_add_4 : decode b_Q_add 4 = .ok (.aload_n 0, 1) := by decide +kernel
theorem d_Q_add_5 : decode b_Q_add 5 = .ok (.getfield 9, 3) := by decide +kernel
theorem d_Q_add_8 : decode b_Q_add 8 = .ok (.arraylength, 1) := by decide +kernel
theorem d_Q_add_9 : decode b_Q_add 9 = .ok (.if_icmp .ge 26, 3) := by decide +kernel
theorem d_Q_add_12 : decode b_Q_add 12 = .ok (.aload_n 0, 1) := by decide +kernel
theorem d_Q_add_13 : decode b_Q_add 13 = .ok (.getfield 9, 3) := by decide +kernel
theorem d_Q_add_16 : decode b_Q_add 16 = .ok (.aload_n 0, 1) := by decide +kernel
theorem d_Q_add_17 : decode b_Q_add 17 = .ok (.getfield 15, 3) := by decide +kernel
theorem d_Q_add_20 : decode b_Q_add 20 = .ok (.aload_n 1, 1) := by decide +kernel
theorem d_Q_add_21 : decode b_Q_add 21 = .ok (.aastore, 1) := by decide +kernel
theorem d_Q_add_22 : decode b_Q_add 22 = .ok (.aload_n 0, 1) := by decide +kernel
theorem d_Q_add_23 : decode b_Q_add 23 = .ok (.dup, 1) := by decide +kernel
theorem d_Q_add_24 : decode b_Q_add 24 = .ok (.getfield 15, 3) := by decide +kernel
theorem d_Q_add_27 : decode b_Q_add 27 = .ok (.iconst 1, 1) := by decide +kernel
theorem d_Q_add_28 : decode b_Q_add 28 = .ok (.iadd, 1) := by decide +kernel
theorem d_Q_add_29 : decode b_Q_add 29 = .ok (.putfield 15, 3) := by decide +kernel
theorem d_Q_add_32 : decode b_Q_add 32 = .ok (.goto 13, 3) := by decide +kernel
theorem d_Q_add_35 : decode b_Q_add 35 = .ok (.aload_n 0, 1) := by decide +kernel
theorem d_Q_add_36 : decode b_Q_add 36 = .ok (.dup, 1) := by decide +kernel
theorem d_Q_add_37 : decode b_Q_add 37 = .ok (.getfield 19, 3) := by decide +kernel
theorem d_Q_add_40 : decode b_Q_add 40 = .ok (.iconst 1, 1) := by decide +kernel
theorem d_Q_add_41 : decode b_Q_add 41 = .ok (.iadd, 1) := by decide +kernel
theorem d_Q_add_42 : decode b_Q_add 42 = .ok (.putfield 19, 3) := by decide +kernel
theorem d_Q_add_45 : decode b_Q_add 45 = .ok (.return_, 1) := by decide +kernel
theorem d_Q_removeFirst_0 : decode b_Q_removeFirst 0 = .ok (.aload_n 0, 1) := by decide +kernel
theorem d_Q_removeFirst_1 : decode b_Q_removeFirst 1 = .ok (.getfield 9, 3) := by decide +kernel
theorem d_Q_removeFirst_4 : decode b_Q_removeFirst 4 = .ok (.iconst 0, 1) := by decide +kernel
theorem d_Q_removeFirst_5 : decode b_Q_removeFirst 5 = .ok (.aaload, 1) := by decide +kernel
theorem d_Q_removeFirst_6 : decode b_Q_removeFirst 6 = .ok (.astore_n 1, 1) := by decide +kernel
theorem d_Q_removeFirst_7 : decode b_Q_removeFirst 7 = .ok (.iconst 1, 1) := by decide +kernel
theorem d_Q_removeFirst_8 : decode b_Q_removeFirst 8 = .ok (.istore_n 2, 1) := by decide +kernel
theorem d_Q_removeFirst_9 : decode b_Q_removeFirst 9 = .ok (.iload_n 2, 1) := by decide +kernel
theorem d_Q_removeFirst_10 : decode b_Q_removeFirst 10 = .ok (.aload_n 0, 1) := by decide +kernel
theorem d_Q_removeFirst_11 : decode b_Q_removeFirst 11 = .ok (.getfield 15, 3) := by decide +kernel
theorem d_Q_removeFirst_14 : decode b_Q_removeFirst 14 = .ok (.if_icmp .ge 23, 3) := by decide +kernel
theorem d_Q_removeFirst_17 : decode b_Q_removeFirst 17 = .ok (.aload_n 0, 1) := by decide +kernel
theorem d_Q_removeFirst_18 : decode b_Q_removeFirst 18 = .ok (.getfield 9, 3) := by decide +kernel
theorem d_Q_removeFirst_21 : decode b_Q_removeFirst 21 = .ok (.iload_n 2, 1) := by decide +kernel
theorem d_Q_removeFirst_22 : decode b_Q_removeFirst 22 = .ok (.iconst 1, 1) := by decide +kernel
theorem d_Q_removeFirst_23 : decode b_Q_removeFirst 23 = .ok (.isub, 1) := by decide +kernel
theorem d_Q_removeFirst_24 : decode b_Q_removeFirst 24 = .ok (.aload_n 0, 1) := by decide +kernel
theorem d_Q_removeFirst_25 : decode b_Q_removeFirst 25 = .ok (.getfield 9, 3) := by decide +kernel
theorem d_Q_removeFirst_28 : decode b_Q_removeFirst 28 = .ok (.iload_n 2, 1) := by decide +kernel
theorem d_Q_removeFirst_29 : decode b_Q_removeFirst 29 = .ok (.aaload, 1) := by decide +kernel
theorem d_Q_removeFirst_30 : decode b_Q_removeFirst 30 = .ok (.aastore, 1) := by decide +kernel
theorem d_Q_removeFirst_31 : decode b_Q_removeFirst 31 = .ok (.iinc 2 1, 3) := by decide +kernel
theorem d_Q_removeFirst_34 : decode b_Q_removeFirst 34 = .ok (.goto (-25), 3) := by decide +kernel
theorem d_Q_removeFirst_37 : decode b_Q_removeFirst 37 = .ok (.aload_n 0, 1) := by decide +kernel
theorem d_Q_removeFirst_38 : decode b_Q_removeFirst 38 = .ok (.getfield 15, 3) := by decide +kernel
theorem d_Q_removeFirst_41 : decode b_Q_removeFirst 41 = .ok (.ifCond .le 13, 3) := by decide +kernel
theorem d_Q_removeFirst_44 : decode b_Q_removeFirst 44 = .ok (.aload_n 0, 1) := by decide +kernel
theorem d_Q_removeFirst_45 : decode b_Q_removeFirst 45 = .ok (.dup, 1) := by decide +kernel
theorem d_Q_removeFirst_46 : decode b_Q_removeFirst 46 = .ok (.getfield 15, 3) := by decide +kernel
theorem d_Q_removeFirst_49 : decode b_Q_removeFirst 49 = .ok (.iconst 1, 1) := by decide +kernel
theorem d_Q_removeFirst_50 : decode b_Q_removeFirst 50 = .ok (.isub, 1) := by decide +kernel
theorem d_Q_removeFirst_51 : decode b_Q_removeFirst 51 = .ok (.putfield 15, 3) := by decide +kernel
theorem d_Q_removeFirst_54 : decode b_Q_removeFirst 54 = .ok (.aload_n 1, 1) := by decide +kernel
theorem d_Q_removeFirst_55 : decode b_Q_removeFirst 55 = .ok (.areturn, 1) := by decide +kernel
theorem d_Q_clear_0 : decode b_Q_clear 0 = .ok (.aload_n 0, 1) := by decide +kernel
theorem d_Q_clear_1 : decode b_Q_clear 1 = .ok (.iconst 0, 1) := by decide +kernel
theorem d_Q_clear_2 : decode b_Q_clear 2 = .ok (.putfield 15, 3) := by decide +kernel
theorem d_Q_clear_5 : decode b_Q_clear 5 = .ok (.return_, 1) := by decide +kernel
end
section
/-! The cells of the system: where a state lies in the heap. Numbers of the kinds of objects: -/
abbrev xi_X : Nat := 4
abbrev xi_A : Nat := 0
abbrev xi_C : Nat := 1
abbrev xi_Q : Nat := 3
abbrev xi_Z : Nat := 2
abbrev xw_G : Type := va_G × (Nat → ClassId)
abbrev xw_tys (g : xw_G) : List (ClassId × FieldType) := [(g.2 0, .object R_A), (g.2 1, .object R_C), (g.2 2, .object R_Z), (g.2 3, .int), (g.2 4, .boolean), (g.2 5, .long)]
abbrev xw_K (g : xw_G) (U : State) : Prop := va_K g.1 vwCl (xw_tys g) U
/-- the block of an object: 56 cells, of which the second is the blank stanza, which nobody writes -/
def xw_B (o q : Nat) : Prop := o ≤ q ∧ q < o + 56 ∧ q ≠ o + 1
def xw_A (o sz q : Nat) : Prop := xw_B o q ∨ sz ≤ q
/-- nothing old has changed but in x -/
def xw_F (x : Nat → Prop) (H H1 : Heap) : Prop := H.size ≤ H1.size ∧ ∀ q : Nat, q < H.size → ¬ x q → H1[q]? = H[q]?
theorem xw_F.rf {x : Nat → Prop} {H : Heap} : xw_F x H H := ⟨Nat.le_refl _, fun _ _ _ => rfl⟩
theorem xw_F.tr {x : Nat → Prop} {H H1 H2 : Heap} (h : xw_F x H H1) (h2 : xw_F x H1 H2) : xw_F x H H2 := ⟨Nat.le_trans h.1 h2.1, fun q hq hx => (h2.2 q (Nat.lt_of_lt_of_le hq h.1) hx).trans (h.2 q hq hx)⟩
theorem xw_F.mono {x y : Nat → Prop} {H H1 : Heap} (h : xw_F x H H1) (hxy : ∀ q, x q → y q) : xw_F y H H1 := ⟨h.1, fun q hq hy => h.2 q hq (fun z => hy (hxy q z))⟩
theorem xw_F.put {H H1 : Heap} {a : Nat} (z : H1.size = H.size) (oq : ∀ q : Nat, q ≠ a → H1[q]? = H[q]?) : xw_F (fun q => q = a) H H1 := ⟨Nat.le_of_eq z.symm, fun q _ h => oq q h⟩
theorem xw_F.new {x : Nat → Prop} {H H1 : Heap} {n : Nat} (z : H1.size = H.size + n) (oq : ∀ q : Nat, q < H.size → H1[q]? = H[q]?) : xw_F x H H1 := ⟨by omega, fun q h _ => oq q h⟩
/-- after a call that may write the block and what is new -/
theorem xw_F.call {o : Nat} {H H1 : Heap} (z : H.size ≤ H1.size) (oq : ∀ q : Nat, q < H.size → ¬ xw_A o H.size q → H1[q]? = H[q]?) : xw_F (xw_B o) H H1 := ⟨z, fun q h hx => oq q h (fun y => y.elim hx (fun w => Nat.not_le.mpr h w))⟩
abbrev xw_r (f : Nat → Option Nat) : (Nat → Int32) ⊕ (Nat → Int64) ⊕ (Nat → UInt32) ⊕ (Nat → UInt64) ⊕ (Nat → Option Nat) := .inr (.inr (.inr (.inr f)))
abbrev xw_zF (z : xs_Z) : List Value := [.int z.1, .int z.2.1, .int z.2.2.1, .int z.2.2.2.1, .int z.2.2.2.2.1, .int z.2.2.2.2.2]
abbrev xw_cF (o i : Nat) (c : xs_C) : List Value := [.ref (o + xs_qo (8 + i)), .int c.1, .int c.2.1, .int c.2.2.1, .int c.2.2.2.1, .int c.2.2.2.2.1, .int (xs_b c.2.2.2.2.2)]
abbrev xw_aF (o i : Nat) (c : Bool × Int32) : List Value := [.ref (o + 4 + 4 * i), .ref (o + xs_qo i), .int (xs_b c.1), .int c.2]
abbrev xw_qF (o n k : Nat) (w : Int32) : List Value := [.ref (o + xs_qo n + 1), .int (nI k), .int w]
abbrev xw_xF (o : Nat) (u : Bool) (n : Int32) (v : Value) : List Value := [.ref (o + 2), .ref (o + 35), .ref (o + xs_qo 14), .int (xs_b u), .int n, v]
def xw_Z (g : xw_G) (B : Nat → Prop) (a : Nat) (z : xs_Z) (H : Heap) : Prop := va_at g.1 vwCl (a, .inr (xi_Z, xw_zF z)) H ∧ ¬ B a
def xw_L (g : xw_G) (B : Nat → Prop) (t : Option xs_Z) (v : Value) (H : Heap) : Prop := match t with
  | none => v = .null
  | some z => ∃ a : Nat, v = .ref a ∧ xw_Z g B a z H
def xw_QF (g : xw_G) (o n : Nat) (f : Nat → Option Nat) (k : Nat) (w : Int32) (H : Heap) : Prop :=
  va_at g.1 vwCl (o + xs_qo n, .inr (xi_Q, xw_qF o n k w)) H ∧ va_at g.1 vwCl (o + xs_qo n + 1, .inl (g.2 2, xs_rm n, xw_r f)) H
def xw_QL (g : xw_G) (B : Nat → Prop) (f : Nat → Option Nat) (l : List xs_Z) (H : Heap) : Prop := ∀ (j : Nat) (z : xs_Z), l[j]? = some z → ∃ a : Nat, f j = some a ∧ xw_Z g B a z H
def xw_Q (g : xw_G) (B : Nat → Prop) (o n : Nat) (l : List xs_Z) (w : Int32) (H : Heap) : Prop := ∃ f : Nat → Option Nat, xw_QF g o n f l.length w H ∧ l.length ≤ xs_rm n ∧ xw_QL g B f l H
def xw_R (g : xw_G) (B : Nat → Prop) (o : Nat) (σ : xs_S) (H : Heap) : Prop :=
  (∃ v : Value, va_at g.1 vwCl (o, .inr (xi_X, xw_xF o (xs_up σ) (xs_nx σ) v)) H ∧ xw_L g B (xs_lt σ) v H) ∧
  va_at g.1 vwCl (o + 2, .inl (g.2 0, 8, xw_r (fun i => some (o + 3 + 4 * i)))) H ∧
  va_at g.1 vwCl (o + 35, .inl (g.2 1, 6, xw_r (fun i => some (o + 36 + 3 * i)))) H ∧
  (∀ i, i < 8 → va_at g.1 vwCl (o + 3 + 4 * i, .inr (xi_A, xw_aF o i (xs_ac σ i))) H) ∧
  (∀ i, i < 8 → va_at g.1 vwCl (o + 4 + 4 * i, .inl (g.2 3, 8, .inl (xs_mk σ i))) H) ∧
  (∀ i, i < 6 → va_at g.1 vwCl (o + 36 + 3 * i, .inr (xi_C, xw_cF o i (xs_cn σ i))) H) ∧
  (∀ n, n < 15 → xw_Q g B o n (xs_q σ n) (xs_lo σ n) H) ∧
  (∀ q, xw_B o q → B q) ∧ (∀ q, B q → q < H.size)
theorem xw_qo1 (n : Nat) (h : n < 15) : (n < 8 ∧ xs_qo n = 5 + 4 * n) ∨ (8 ≤ n ∧ n < 14 ∧ xs_qo n + 24 = 37 + 3 * n) ∨ (n = 14 ∧ xs_qo n = 54) := by
  by_cases h1 : n < 8
  · exact Or.inl ⟨h1, by simp [xs_qo, h1]⟩
  · by_cases h2 : n < 14
    · exact Or.inr (Or.inl ⟨by omega, h2, by simp only [xs_qo, h1, h2, if_true, if_false]; omega⟩)
    · exact Or.inr (Or.inr ⟨by omega, by simp [xs_qo, h1, h2]⟩)
theorem xw_qo2 {n k : Nat} (hn : n < 15) (hk : k < 15) (h : n ≠ k) : xs_qo n ≠ xs_qo k ∧ xs_qo n ≠ xs_qo k + 1 ∧ xs_qo k ≠ xs_qo n + 1 := by
  have a := xw_qo1 n hn
  have b := xw_qo1 k hk
  omega
theorem xw_qo3 {n : Nat} (hn : n < 15) : 5 ≤ xs_qo n ∧ xs_qo n < 55 := by
  have a := xw_qo1 n hn
  omega
theorem xw_qo4 {n i : Nat} (hn : n < 15) (hi : i < 8) : xs_qo n ≠ 3 + 4 * i ∧ xs_qo n ≠ 4 + 4 * i ∧ xs_qo n + 1 ≠ 3 + 4 * i ∧ xs_qo n + 1 ≠ 4 + 4 * i := by
  have a := xw_qo1 n hn
  omega
theorem xw_qo5 {n i : Nat} (hn : n < 15) (hi : i < 6) : xs_qo n ≠ 36 + 3 * i ∧ xs_qo n + 1 ≠ 36 + 3 * i := by
  have a := xw_qo1 n hn
  omega
theorem xw_qo6 {n : Nat} (hn : n < 15) : xs_qo n ≠ 35 ∧ xs_qo n + 1 ≠ 35 ∧ xs_qo n ≠ 2 ∧ xs_qo n + 1 ≠ 2 ∧ xs_qo n ≠ 0 := by
  have a := xw_qo1 n hn
  omega
section XW
variable {g : xw_G} {B : Nat → Prop} {o : Nat} {σ : xs_S} {H H1 : Heap} {x : Nat → Prop}
theorem xw_at {q : Nat × va_E} (h : va_at g.1 vwCl q H) (hF : xw_F x H H1) (hx : ¬ x q.1) : va_at g.1 vwCl q H1 := h.kept (hF.2 q.1 h.lt hx)
theorem xw_Z.F {a : Nat} {z : xs_Z} (h : xw_Z g B a z H) (hx : ∀ q, x q → B q) (hF : xw_F x H H1) : xw_Z g B a z H1 := ⟨xw_at h.1 hF (fun q => h.2 (hx a q)), h.2⟩
theorem xw_L.F {t : Option xs_Z} {v : Value} (h : xw_L g B t v H) (hx : ∀ q, x q → B q) (hF : xw_F x H H1) : xw_L g B t v H1 := by
  cases t with
  | none => exact h
  | some z =>
    obtain ⟨a, h1, h2⟩ := h
    exact ⟨a, h1, h2.F hx hF⟩
theorem xw_QL.F {f : Nat → Option Nat} {l : List xs_Z} (h : xw_QL g B f l H) (hx : ∀ q, x q → B q) (hF : xw_F x H H1) : xw_QL g B f l H1 := fun j z hj => by
  obtain ⟨a, h1, h2⟩ := h j z hj
  exact ⟨a, h1, h2.F hx hF⟩
theorem xw_QF.F {n k : Nat} {f : Nat → Option Nat} {w : Int32} (h : xw_QF g o n f k w H) (hF : xw_F x H H1) (h1 : ¬ x (o + xs_qo n)) (h2 : ¬ x (o + xs_qo n + 1)) : xw_QF g o n f k w H1 := ⟨xw_at h.1 hF h1, xw_at h.2 hF h2⟩
theorem xw_Q.F {n : Nat} {l : List xs_Z} {w : Int32} (h : xw_Q g B o n l w H) (hx : ∀ q, x q → B q) (hF : xw_F x H H1) (h1 : ¬ x (o + xs_qo n)) (h2 : ¬ x (o + xs_qo n + 1)) : xw_Q g B o n l w H1 := by
  obtain ⟨f, a, b, d⟩ := h
  exact ⟨f, a.F hF h1 h2, b, d.F hx hF⟩
/-- the heap has grown, nothing of the block was written -/
theorem xw_R.grow (h : xw_R g B o σ H) (hF : xw_F (fun _ => False) H H1) : xw_R g B o σ H1 := by
  obtain ⟨⟨v, h1, h2⟩, h3, h4, h5, h6, h7, h8, h9, h10⟩ := h
  have hx : ∀ q, (fun _ : Nat => False) q → B q := fun _ e => e.elim
  exact ⟨⟨v, xw_at h1 hF (fun z => z), h2.F hx hF⟩, xw_at h3 hF (fun z => z), xw_at h4 hF (fun z => z), fun i hi => xw_at (h5 i hi) hF (fun z => z), fun i hi => xw_at (h6 i hi) hF (fun z => z), fun i hi => xw_at (h7 i hi) hF (fun z => z), fun n hn' => (h8 n hn').F hx hF (fun z => z) (fun z => z), h9, fun q hq => Nat.lt_of_lt_of_le (h10 q hq) hF.1⟩
theorem xw_R.setC (h : xw_R g B o σ H) {i : Nat} (hi : i < 6) {c : xs_C} (hF : xw_F (fun q => q = o + 36 + 3 * i) H H1) (hat : va_at g.1 vwCl (o + 36 + 3 * i, .inr (xi_C, xw_cF o i c)) H1) : xw_R g B o (xs_scn σ i c) H1 := by
  obtain ⟨⟨v, h1, h2⟩, h3, h4, h5, h6, h7, h8, h9, h10⟩ := h
  have hx : ∀ q, (fun q : Nat => q = o + 36 + 3 * i) q → B q := fun q e => h9 q (by dsimp only at e; unfold xw_B; omega)
  refine ⟨⟨v, xw_at h1 hF (by (try dsimp only); omega), h2.F hx hF⟩, xw_at h3 hF (by (try dsimp only); omega), xw_at h4 hF (by (try dsimp only); omega), fun j hj => xw_at (h5 j hj) hF (by (try dsimp only); omega), fun j hj => xw_at (h6 j hj) hF (by (try dsimp only); omega), fun j hj => ?_, fun n hn => (h8 n hn).F hx hF ?_ ?_, h9, fun q hq => Nat.lt_of_lt_of_le (h10 q hq) hF.1⟩
  · show va_at g.1 vwCl (o + 36 + 3 * j, .inr (xi_C, xw_cF o j (va_up (xs_cn σ) i c j))) H1
    by_cases e : j = i
    · subst e
      rw [va_up_self]
      exact hat
    · rw [va_up_ne _ _ e]
      exact xw_at (h7 j hj) hF (by (try dsimp only); omega)
  · have := xw_qo5 hn hi
    (try dsimp only)
    omega
  · have := xw_qo5 hn hi
    (try dsimp only)
    omega
theorem xw_R.setA (h : xw_R g B o σ H) {i : Nat} (hi : i < 8) {c : Bool × Int32} (hF : xw_F (fun q => q = o + 3 + 4 * i) H H1) (hat : va_at g.1 vwCl (o + 3 + 4 * i, .inr (xi_A, xw_aF o i c)) H1) : xw_R g B o (xs_sac σ i c) H1 := by
  obtain ⟨⟨v, h1, h2⟩, h3, h4, h5, h6, h7, h8, h9, h10⟩ := h
  have hx : ∀ q, (fun q : Nat => q = o + 3 + 4 * i) q → B q := fun q e => h9 q (by dsimp only at e; unfold xw_B; omega)
  refine ⟨⟨v, xw_at h1 hF (by (try dsimp only); omega), h2.F hx hF⟩, xw_at h3 hF (by (try dsimp only); omega), xw_at h4 hF (by (try dsimp only); omega), fun j hj => ?_, fun j hj => xw_at (h6 j hj) hF (by (try dsimp only); omega), fun j hj => xw_at (h7 j hj) hF (by (try dsimp only); omega), fun n hn => (h8 n hn).F hx hF ?_ ?_, h9, fun q hq => Nat.lt_of_lt_of_le (h10 q hq) hF.1⟩
  · show va_at g.1 vwCl (o + 3 + 4 * j, .inr (xi_A, xw_aF o j (va_up (xs_ac σ) i c j))) H1
    by_cases e : j = i
    · subst e
      rw [va_up_self]
      exact hat
    · rw [va_up_ne _ _ e]
      exact xw_at (h5 j hj) hF (by (try dsimp only); omega)
  · have := xw_qo4 hn hi
    (try dsimp only)
    omega
  · have := xw_qo4 hn hi
    (try dsimp only)
    omega
theorem xw_R.setM (h : xw_R g B o σ H) {i k : Nat} (hi : i < 8) {w : Int32} (hF : xw_F (fun q => q = o + 4 + 4 * i) H H1) (hat : va_at g.1 vwCl (o + 4 + 4 * i, .inl (g.2 3, 8, .inl (upd (xs_mk σ i) k w))) H1) : xw_R g B o (xs_smk σ i k w) H1 := by
  obtain ⟨⟨v, h1, h2⟩, h3, h4, h5, h6, h7, h8, h9, h10⟩ := h
  have hx : ∀ q, (fun q : Nat => q = o + 4 + 4 * i) q → B q := fun q e => h9 q (by dsimp only at e; unfold xw_B; omega)
  refine ⟨⟨v, xw_at h1 hF (by (try dsimp only); omega), h2.F hx hF⟩, xw_at h3 hF (by (try dsimp only); omega), xw_at h4 hF (by (try dsimp only); omega), fun j hj => xw_at (h5 j hj) hF (by (try dsimp only); omega), fun j hj => ?_, fun j hj => xw_at (h7 j hj) hF (by (try dsimp only); omega), fun n hn => (h8 n hn).F hx hF ?_ ?_, h9, fun q hq => Nat.lt_of_lt_of_le (h10 q hq) hF.1⟩
  · show va_at g.1 vwCl (o + 4 + 4 * j, .inl (g.2 3, 8, .inl (va_up (xs_mk σ) i (upd (xs_mk σ i) k w) j))) H1
    by_cases e : j = i
    · subst e
      rw [va_up_self]
      exact hat
    · rw [va_up_ne _ _ e]
      exact xw_at (h6 j hj) hF (by (try dsimp only); omega)
  · have := xw_qo4 hn hi
    (try dsimp only)
    omega
  · have := xw_qo4 hn hi
    (try dsimp only)
    omega
theorem xw_R.setG (h : xw_R g B o σ H) {u : Bool} {n : Int32} {t : Option xs_Z} {v : Value} (hF : xw_F (fun q => q = o) H H1) (hat : va_at g.1 vwCl (o, .inr (xi_X, xw_xF o u n v)) H1) (hL : xw_L g B t v H) : xw_R g B o (xs_sg σ u n t) H1 := by
  obtain ⟨⟨v0, h1, h2⟩, h3, h4, h5, h6, h7, h8, h9, h10⟩ := h
  have hx : ∀ q, (fun q : Nat => q = o) q → B q := fun q e => h9 q (by dsimp only at e; unfold xw_B; omega)
  refine ⟨⟨v, hat, hL.F hx hF⟩, xw_at h3 hF (by (try dsimp only); omega), xw_at h4 hF (by (try dsimp only); omega), fun j hj => xw_at (h5 j hj) hF (by (try dsimp only); omega), fun j hj => xw_at (h6 j hj) hF (by (try dsimp only); omega), fun j hj => xw_at (h7 j hj) hF (by (try dsimp only); omega), fun n hn => (h8 n hn).F hx hF ?_ ?_, h9, fun q hq => Nat.lt_of_lt_of_le (h10 q hq) hF.1⟩
  · have := xw_qo3 hn
    (try dsimp only)
    omega
  · have := xw_qo3 hn
    (try dsimp only)
    omega
theorem xw_R.setQ (h : xw_R g B o σ H) {n : Nat} (hn : n < 15) {l : List xs_Z} {w : Int32} {f : Nat → Option Nat} (hF : xw_F (fun q => q = o + xs_qo n ∨ q = o + xs_qo n + 1) H H1) (hq : xw_QF g o n f l.length w H1) (hl : l.length ≤ xs_rm n) (hz : xw_QL g B f l H) : xw_R g B o (xs_sq σ n l w) H1 := by
  obtain ⟨⟨v, h1, h2⟩, h3, h4, h5, h6, h7, h8, h9, h10⟩ := h
  have q3 := xw_qo3 hn
  have q6 := xw_qo6 hn
  have hx : ∀ q, (fun q : Nat => q = o + xs_qo n ∨ q = o + xs_qo n + 1) q → B q := fun q e => h9 q (by dsimp only at e; unfold xw_B; omega)
  refine ⟨⟨v, xw_at h1 hF (by (try dsimp only); omega), h2.F hx hF⟩, xw_at h3 hF (by (try dsimp only); omega), xw_at h4 hF (by (try dsimp only); omega), fun j hj => xw_at (h5 j hj) hF (by have := xw_qo4 hn hj; (try dsimp only); omega), fun j hj => xw_at (h6 j hj) hF (by have := xw_qo4 hn hj; (try dsimp only); omega), fun j hj => xw_at (h7 j hj) hF (by have := xw_qo5 hn hj; (try dsimp only); omega), fun k hk => ?_, h9, fun q hq => Nat.lt_of_lt_of_le (h10 q hq) hF.1⟩
  show xw_Q g B o k (va_up (xs_q σ) n l k) (va_up (xs_lo σ) n w k) H1
  by_cases e : k = n
  · subst e
    rw [va_up_self, va_up_self]
    exact ⟨f, hq, hl, hz.F hx hF⟩
  · rw [va_up_ne _ _ e, va_up_ne _ _ e]
    have := xw_qo2 hk hn e
    exact (h8 k hk).F hx hF (by (try dsimp only); omega) (by (try dsimp only); omega)
end XW
end
section
/-! Worlds, contracts, heads, calls and ends. -/
/-- a static field of Throwable that a throw reads: where it lies, that it holds a reference; its cell lies below lim -/
def xt_S (n d : String) (lim : Nat) (U : State) (H : Heap) : Prop := ∃ (c : ClassId) (k : Class) (i : Nat) (f : Field) (a : Nat) (cell : Cell) (v : Value), U.vm.findClass Bundle.tN = some c ∧ U.fieldFound? Bundle.tN n d = some (c, k, i, f) ∧ f.isStatic = true ∧ k.statics = some a ∧ H[a]? = some cell ∧ cell.vm.isStatics = true ∧ cell.cls = c ∧ k.staticTypes[f.slot]? = some f.type ∧ cell.slots[f.slot]? = some v ∧ v.isRef = true ∧ a < lim
theorem xt_S.to {n d : String} {lim : Nat} {u U : State} {H H1 : Heap} (h : xt_S n d lim u H) (hvm : u.vm.Alike U.vm) (hq : ∀ q : Nat, q < H.size → q < lim → H1[q]? = H[q]?) : xt_S n d lim U H1 := by
  obtain ⟨c, k, i, f, a, cell, v, h1, h2, h3, h4, h5, h6, h7, h8, h9, h10, h11⟩ := h
  obtain ⟨k', hi', he⟩ := State.fieldFound?_setVm hvm h2
  exact ⟨c, k', i, f, a, cell, v, by rw [hvm.findClass]; exact h1, hi', h3, by rw [he]; exact h4, by rw [hq a (Array.getElem?_eq_some_iff.mp h5).1 h11]; exact h5, h6, h7, by rw [he]; exact h8, h9, h10, h11⟩
theorem xt_S.lays {n d : String} {lim : Nat} {s : State} {args : Array Value} (h : xt_S n d lim s s.heap) : (Cond.laysStatic Bundle.tN n d).before args s = true := by
  obtain ⟨c, k, i, f, a, cell, v, h1, h2, h3, h4, h5, h6, h7, h8, h9, h10, h11⟩ := h
  exact Cond.laysStatic_of h1 h2 h3 h4 h5 h6 h7 (Array.getElem?_eq_some_iff.mp h9).1 h8
theorem xt_S.ref {n d : String} {lim : Nat} {s : State} {args : Array Value} (h : xt_S n d lim s s.heap) : (Cond.isRef (.static Bundle.tN n d)).before args s = true := by
  obtain ⟨c, k, i, f, a, cell, v, h1, h2, h3, h4, h5, h6, h7, h8, h9, h10, h11⟩ := h
  have he : (Term.static Bundle.tN n d).eval args s none [] s = some v := by
    simp [Term.eval, State.fieldNamed?, h2, h3, h4, h5, h6, h9]
  simp only [Cond.before, Cond.holds, Cond.value, he]
  cases v <;> simp_all [Value.isRef]
/-- words of a throw that no method is handed: they speak of the tables alone -/
def xt_fw : List Cond := [.castable "java/lang/IllegalArgumentException" "java/lang/IllegalArgumentException", .castable "java/lang/IllegalStateException" "java/lang/IllegalStateException", .castable "java/lang/UnsupportedOperationException" "java/lang/UnsupportedOperationException", .castable "java/util/NoSuchElementException" "java/util/NoSuchElementException",
  .declares ⟨"java/lang/RuntimeException", "<init>", "()V"⟩, .declares ⟨"java/lang/Exception", "<init>", "()V"⟩, .declares ⟨"java/lang/Throwable", "<init>", "()V"⟩]
theorem xt_fw_face : ∀ w ∈ xt_fw, (w.faceAtom && w.onTables) = true := List.all_eq_true.mp rfl
theorem xt_fw_to {w : Cond} {a a' : Array Value} {u U : State} (hw : (w.faceAtom && w.onTables) = true) (hvm : u.vm.Alike U.vm) (h : w.before a u = true) : w.before a' U = true := by
  rw [Bool.and_eq_true] at hw
  show w.before a' (U.setVm U.vm) = true
  rw [Cond.onTables_vm (A' := a) (U' := u) U.vm w hw.2]
  exact Cond.faceAtom_setVm hvm w hw.1 h
def xw_T (lim : Nat) (U : State) : Prop := xt_S "UNASSIGNED_STACK" Bundle.steD lim U U.heap ∧ xt_S "SUPPRESSED_SENTINEL" Bundle.listD lim U U.heap ∧ ∀ w ∈ xt_fw, w.before #[] U = true
theorem xw_T.to {lim : Nat} {s U : State} (h : xw_T lim s) (hvm : s.vm.Alike U.vm) (hq : ∀ q : Nat, q < s.heap.size → q < lim → U.heap[q]? = s.heap[q]?) : xw_T lim U := ⟨h.1.to hvm hq, h.2.1.to hvm hq, fun w hw => xt_fw_to (xt_fw_face w hw) hvm (h.2.2 w hw)⟩
/-- the world of a method: the state, the tables, the statics -/
def xw_W (g : xw_G) (B : Nat → Prop) (o lim : Nat) (σ : xs_S) (U : State) : Prop := xw_R g B o σ U.heap ∧ xw_K g U ∧ xw_T lim U ∧ lim ≤ o
theorem xw_R.lt {g : xw_G} {B : Nat → Prop} {o : Nat} {σ : xs_S} {H : Heap} (h : xw_R g B o σ H) : o + 56 ≤ H.size := by
  have h1 := h.2.2.2.2.2.2.1 14 (by decide)
  obtain ⟨f, ⟨-, h2⟩, -⟩ := h1
  have h3 : o + xs_qo 14 + 1 < H.size := h2.lt
  have h4 : xs_qo 14 = 54 := rfl
  omega
theorem xw_W.to {g : xw_G} {B : Nat → Prop} {o lim : Nat} {σ τ : xs_S} {s U : State} {H : Heap} {locs : List Loc} (h : xw_W g B o lim σ s) (hX : xw_R g B o τ H) (hS : va_S (xw_A o s.heap.size) s.heap H locs) (hU : U.heap = H) (hvm : s.vm.Alike U.vm) : xw_W g B o lim τ U := by
  obtain ⟨h1, h2, h3, h4⟩ := h
  refine ⟨by rw [hU]; exact hX, va_K.moved hvm h2, h3.to hvm (fun q hq hl => ?_), h4⟩
  rw [hU]
  refine hS.2.1 q hq (fun z => ?_)
  rcases z with z | z
  · exact Nat.not_lt.mpr (Nat.le_trans h4 z.1) hl
  · exact Nat.not_le.mpr hq z
theorem xw_W.blind {g : xw_G} {B : Nat → Prop} {o lim : Nat} {σ : xs_S} {U : State} {f : JFrame} {mk : MethodId} {a : Array Value} (h : xw_W g B o lim σ U) : xw_W g B o lim σ (U.calling f mk a) :=
  ⟨h.1, va_K.moved (u := U) (U := U.calling f mk a) (Vm.Alike.refl U.vm) h.2.1, h.2.2.1.to (U := U.calling f mk a) (Vm.Alike.refl U.vm) (fun _ _ _ => rfl), h.2.2.2⟩
def xc_P (g : xw_G) (B : Nat → Prop) (o lim : Nat) (σ : xs_S) (av : List Value) (E : Heap → Prop) (sz : Nat) : Array Value → State → Prop := va_Pc av (fun U => U.heap.size = sz ∧ xw_W g B o lim σ U ∧ E U.heap)
theorem xc_P.blind {g : xw_G} {B : Nat → Prop} {o lim : Nat} {σ : xs_S} {av : List Value} {E : Heap → Prop} {sz : Nat} : FrameBlind (xc_P g B o lim σ av E sz) := fun a U f mk h => ⟨h.1, h.2.1, h.2.2.1.blind, h.2.2.2⟩
/-- a method that answers nothing -/
def xc_V (l : Launch) (y : MethodName) (cd : Cond) (g : xw_G) (B : Nat → Prop) (o lim : Nat) (σ τ : xs_S) (av : List Value) (E : Heap → Prop) (fr lo mc ms : Nat) : Prop :=
  ∀ sz : Nat, Met l y (cd :: xw_ws) { frames := fr, cells := mc, slots := ms, locals := lo } (xc_P g B o lim σ av E sz) (xb_V (fun t => xw_W g B o lim τ t) (xw_A o sz)) mc ms (xw_A o sz)
/-- a method that answers a value -/
def xc_Q (l : Launch) (y : MethodName) (cd : Cond) (g : xw_G) (B : Nat → Prop) (o lim : Nat) (σ τ : xs_S) (av : List Value) (E : Heap → Prop) (val : Value → Heap → Prop) (fr lo mc ms : Nat) : Prop :=
  ∀ sz : Nat, Met l y (cd :: xw_ws) { frames := fr, cells := mc, slots := ms, locals := lo } (xc_P g B o lim σ av E sz) (xb_Q (fun v t => val v t.heap ∧ xw_W g B o lim τ t) (xw_A o sz)) mc ms (xw_A o sz)
/-- what every body has at hand -/
def xh_C (p : Program) (s : State) (m : MethodId) (args : Array Value) (meth : Method) (c : Code) (own : String) (cc : ByteArray) (maxL : Nat) (ret : Option FieldType) : Prop :=
  p.tables.exec = Jvm.exec ∧ c.code = cc ∧ c.maxLocals = maxL ∧ meth.sig.returnType = ret ∧ s.vm.findClass own = some m.cls ∧ (∀ w ∈ xw_ws, w.before args s = true) ∧ meth.locks = false
section XH
variable {l : Launch} {y : MethodName} {own : String} {cc : ByteArray} {maxL : Nat} {ret : Option FieldType} {g : xw_G} {B : Nat → Prop} {o lim : Nat} {σ τ : xs_S} {av : List Value} {E : Heap → Prop} {fr lo mc ms : Nat} {val : Value → Heap → Prop}
theorem xh_V (hy : plainName y.cls = true) (ho : y.cls = own) (hn : (lg_sl av).length ≤ maxL)
    (body : ∀ (p : Program) (e : Env) (R : Room) (s : State) (m : MethodId) (below : List Frame) (meth : Method) (c : Code) (ls : Array Slot), R.frames = fr → R.locals = lo → R.cells = mc → R.slots = ms → xh_C p s m av.toArray meth c own cc maxL ret → xw_W g B o lim σ s → E s.heap → lv_has ls maxL (lv_args 0 av) →
      W p l e R s m av.toArray below meth c s.heap [] 0 0 (MQ below (xb_V (fun t => xw_W g B o lim τ t) (xw_A o s.heap.size)) av.toArray s mc ms (xw_A o s.heap.size)) (F0 m 0 ls [])) : xc_V l y (Cond.code y cc maxL ret) g B o lim σ τ av E fr lo mc ms := by
  intro sz
  refine Met.ofW (cc := cc) (maxL := maxL) (ret := ret) hy rfl ?_
  intro p e s m args below meth c s₁ B0 hml hv
  obtain ⟨rfl, hsz, hW, hE⟩ := hv
  subst hsz
  have hts := atoms_spec (ws := Cond.code y cc maxL ret :: xw_ws) B0.pre
  have hown : s.vm.findClass own = some m.cls := ho ▸ findClass_of_methodNamed B0.named
  have hl := lv_entry av (n := maxL) hn
  rw [lg_entry_eq]
  exact body p e _ s m below meth c _ rfl rfl rfl rfl ⟨B0.exec, B0.bytes, hml, B0.returns, hown, fun w h => hts w (List.mem_cons_of_mem _ h), B0.notSynchronized⟩ hW hE hl
theorem xh_Q (hy : plainName y.cls = true) (ho : y.cls = own) (hn : (lg_sl av).length ≤ maxL)
    (body : ∀ (p : Program) (e : Env) (R : Room) (s : State) (m : MethodId) (below : List Frame) (meth : Method) (c : Code) (ls : Array Slot), R.frames = fr → R.locals = lo → R.cells = mc → R.slots = ms → xh_C p s m av.toArray meth c own cc maxL ret → xw_W g B o lim σ s → E s.heap → lv_has ls maxL (lv_args 0 av) →
      W p l e R s m av.toArray below meth c s.heap [] 0 0 (MQ below (xb_Q (fun v t => val v t.heap ∧ xw_W g B o lim τ t) (xw_A o s.heap.size)) av.toArray s mc ms (xw_A o s.heap.size)) (F0 m 0 ls [])) : xc_Q l y (Cond.code y cc maxL ret) g B o lim σ τ av E val fr lo mc ms := by
  intro sz
  refine Met.ofW (cc := cc) (maxL := maxL) (ret := ret) hy rfl ?_
  intro p e s m args below meth c s₁ B0 hml hv
  obtain ⟨rfl, hsz, hW, hE⟩ := hv
  subst hsz
  have hts := atoms_spec (ws := Cond.code y cc maxL ret :: xw_ws) B0.pre
  have hown : s.vm.findClass own = some m.cls := ho ▸ findClass_of_methodNamed B0.named
  have hl := lv_entry av (n := maxL) hn
  rw [lg_entry_eq]
  exact body p e _ s m below meth c _ rfl rfl rfl rfl ⟨B0.exec, B0.bytes, hml, B0.returns, hown, fun w h => hts w (List.mem_cons_of_mem _ h), B0.notSynchronized⟩ hW hE hl
end XH
section XK
variable {p : Program} {l : Launch} {e : Env} {R : Room} {s : State} {m : MethodId} {args : Array Value} {below : List Frame} {meth : Method} {c : Code} {H : Heap} {locs : List Loc} {cells slots : Nat} {Q : State → Prop}
variable {cc bytes : ByteArray} {pc nL maxL index fr lo mc ms : Nat} {ls : Array Slot} {rest st0 As : List Value} {own C : String} {y : MethodName} {ret ret0 : Option FieldType} {g : xw_G} {B : Nat → Prop} {o lim b : Nat} {σ0 σ τ : xs_S} {E : Heap → Prop} {val : Value → Heap → Prop}
theorem xk_A (hS : va_S (xw_A o s.heap.size) s.heap H locs) : ∀ q, xw_A o H.size q → xw_A o s.heap.size q := fun q h => h.elim Or.inl (fun z => Or.inr (Nat.le_trans hS.1 z))
/-- a call on an object, nothing answered -/
theorem xk_iV (hM : xc_V l y (Cond.code y bytes maxL ret) g B o lim σ τ (.ref b :: As) E fr lo mc ms) (hG : GoodIn xw_ws (wsV own index C y (Cond.code y bytes maxL ret :: xw_ws)))
    (hd : y.cls = C ∧ y.cls ≠ "java/lang/invoke/MethodHandle" ∧ y.cls ≠ "java/lang/invoke/VarHandle" ∧ (parseMethodDescriptor y.desc).map (fun d => d.parameters.length) = some As.length)
    (hC : xh_C p s m args meth c own cc nL ret0) (hW : xw_W g B o lim σ0 s) (hX : xw_R g B o σ H) (hS : va_S (xw_A o s.heap.size) s.heap H locs)
    (hrecv : ∃ cell : Cell, H[b]? = some cell ∧ cell.vm.isStatics = false ∧ s.vm.findClass C = some cell.cls) (hE : E H)
    (hRf : fr + 1 ≤ R.frames) (hRl : 8 + (maxL + 11) + lo ≤ R.locals) (hRc : cells + mc ≤ R.cells) (hRs : slots + ms ≤ R.slots)
    (hls : ls.size = nL) (hst : st0 = As.reverse ++ .ref b :: rest) (hrm : (rest.map fun v => v.category).sum ≤ 8) (hdg : decode cc pc = .ok (.invokevirtual index, 3))
    (kk : ∀ (H1 : Heap) (locs1 : List Loc), xw_R g B o τ H1 → va_S (xw_A o s.heap.size) s.heap H1 locs1 → xw_F (xw_B o) H H1 → W p l e R s m args below meth c H1 locs1 (cells + mc) (slots + ms) Q (F0 m (pc + 3) ls rest)) : W p l e R s m args below meth c H locs cells slots Q (F0 m pc ls st0) := by
  obtain ⟨hx, hb, hml, -, hown, hts, -⟩ := hC
  exact xb_callv (va_runV (As := As) (rest := rest) ⟨hx, hb, hml, hown, hts⟩ (hM H.size) (cwV As.length hts hG rfl rfl rfl hd ⟨hRf, hRl⟩) ⟨xc_P.blind, hrecv, fun U hU hw => ⟨rfl, by rw [hU], hW.to hX hS hU hw.alike, by rw [hU]; exact hE⟩⟩ rfl rfl hls hst (lv_room hrm) hdg ⟨hRc, hRs⟩) hS (xk_A hS) (xk_A hS)
    (fun t locs1 _ hB hz hk hS1 => kk t.heap locs1 hB.1 hS1 (xw_F.call hz hk))
theorem xk_iQ (hM : xc_Q l y (Cond.code y bytes maxL ret) g B o lim σ τ (.ref b :: As) E val fr lo mc ms) (hG : GoodIn xw_ws (wsV own index C y (Cond.code y bytes maxL ret :: xw_ws)))
    (hd : y.cls = C ∧ y.cls ≠ "java/lang/invoke/MethodHandle" ∧ y.cls ≠ "java/lang/invoke/VarHandle" ∧ (parseMethodDescriptor y.desc).map (fun d => d.parameters.length) = some As.length)
    (hC : xh_C p s m args meth c own cc nL ret0) (hW : xw_W g B o lim σ0 s) (hX : xw_R g B o σ H) (hS : va_S (xw_A o s.heap.size) s.heap H locs)
    (hrecv : ∃ cell : Cell, H[b]? = some cell ∧ cell.vm.isStatics = false ∧ s.vm.findClass C = some cell.cls) (hE : E H)
    (hRf : fr + 1 ≤ R.frames) (hRl : 8 + (maxL + 11) + lo ≤ R.locals) (hRc : cells + mc ≤ R.cells) (hRs : slots + ms ≤ R.slots)
    (hls : ls.size = nL) (hst : st0 = As.reverse ++ .ref b :: rest) (hrm : (rest.map fun v => v.category).sum ≤ 8) (hdg : decode cc pc = .ok (.invokevirtual index, 3))
    (kk : ∀ (v : Value) (H1 : Heap) (locs1 : List Loc), val v H1 → xw_R g B o τ H1 → va_S (xw_A o s.heap.size) s.heap H1 locs1 → xw_F (xw_B o) H H1 → W p l e R s m args below meth c H1 locs1 (cells + mc) (slots + ms) Q (F0 m (pc + 3) ls (v :: rest))) : W p l e R s m args below meth c H locs cells slots Q (F0 m pc ls st0) := by
  obtain ⟨hx, hb, hml, -, hown, hts, -⟩ := hC
  exact xb_callq (va_runV (As := As) (rest := rest) ⟨hx, hb, hml, hown, hts⟩ (hM H.size) (cwV As.length hts hG rfl rfl rfl hd ⟨hRf, hRl⟩) ⟨xc_P.blind, hrecv, fun U hU hw => ⟨rfl, by rw [hU], hW.to hX hS hU hw.alike, by rw [hU]; exact hE⟩⟩ rfl rfl hls hst (lv_room hrm) hdg ⟨hRc, hRs⟩) hS (xk_A hS) (xk_A hS)
    (fun v t locs1 _ hB hz hk hS1 => kk v t.heap locs1 hB.1 hB.2.1 hS1 (xw_F.call hz hk))
theorem xk_sV (hM : xc_V l y (Cond.code y bytes maxL ret) g B o lim σ τ As E fr lo mc ms) (hG : GoodIn xw_ws (wsS own index y (Cond.code y bytes maxL ret :: xw_ws)))
    (hd : y.cls = own ∧ y.cls ≠ "java/lang/invoke/MethodHandle" ∧ y.cls ≠ "java/lang/invoke/VarHandle" ∧ (parseMethodDescriptor y.desc).map (fun d => d.parameters.length) = some As.length)
    (hC : xh_C p s m args meth c own cc nL ret0) (hW : xw_W g B o lim σ0 s) (hX : xw_R g B o σ H) (hS : va_S (xw_A o s.heap.size) s.heap H locs) (hE : E H)
    (hRf : fr + 1 ≤ R.frames) (hRl : 8 + (maxL + 11) + lo ≤ R.locals) (hRc : cells + mc ≤ R.cells) (hRs : slots + ms ≤ R.slots)
    (hls : ls.size = nL) (hst : st0 = As.reverse ++ rest) (hrm : (rest.map fun v => v.category).sum ≤ 8) (hdg : decode cc pc = .ok (.invokestatic index, 3))
    (kk : ∀ (H1 : Heap) (locs1 : List Loc), xw_R g B o τ H1 → va_S (xw_A o s.heap.size) s.heap H1 locs1 → xw_F (xw_B o) H H1 → W p l e R s m args below meth c H1 locs1 (cells + mc) (slots + ms) Q (F0 m (pc + 3) ls rest)) : W p l e R s m args below meth c H locs cells slots Q (F0 m pc ls st0) := by
  obtain ⟨hx, hb, hml, -, hown, hts, -⟩ := hC
  exact xb_callv (va_runS (As := As) (rest := rest) ⟨hx, hb, hml, hown, hts⟩ (hM H.size) (cwS As.length hts hG rfl rfl rfl hd ⟨hRf, hRl⟩) ⟨xc_P.blind, fun U hU hw => ⟨rfl, by rw [hU], hW.to hX hS hU hw.alike, by rw [hU]; exact hE⟩⟩ rfl rfl hls hst (lv_room hrm) hdg ⟨hRc, hRs⟩) hS (xk_A hS) (xk_A hS)
    (fun t locs1 _ hB hz hk hS1 => kk t.heap locs1 hB.1 hS1 (xw_F.call hz hk))
theorem xk_sQ (hM : xc_Q l y (Cond.code y bytes maxL ret) g B o lim σ τ As E val fr lo mc ms) (hG : GoodIn xw_ws (wsS own index y (Cond.code y bytes maxL ret :: xw_ws)))
    (hd : y.cls = own ∧ y.cls ≠ "java/lang/invoke/MethodHandle" ∧ y.cls ≠ "java/lang/invoke/VarHandle" ∧ (parseMethodDescriptor y.desc).map (fun d => d.parameters.length) = some As.length)
    (hC : xh_C p s m args meth c own cc nL ret0) (hW : xw_W g B o lim σ0 s) (hX : xw_R g B o σ H) (hS : va_S (xw_A o s.heap.size) s.heap H locs) (hE : E H)
    (hRf : fr + 1 ≤ R.frames) (hRl : 8 + (maxL + 11) + lo ≤ R.locals) (hRc : cells + mc ≤ R.cells) (hRs : slots + ms ≤ R.slots)
    (hls : ls.size = nL) (hst : st0 = As.reverse ++ rest) (hrm : (rest.map fun v => v.category).sum ≤ 8) (hdg : decode cc pc = .ok (.invokestatic index, 3))
    (kk : ∀ (v : Value) (H1 : Heap) (locs1 : List Loc), val v H1 → xw_R g B o τ H1 → va_S (xw_A o s.heap.size) s.heap H1 locs1 → xw_F (xw_B o) H H1 → W p l e R s m args below meth c H1 locs1 (cells + mc) (slots + ms) Q (F0 m (pc + 3) ls (v :: rest))) : W p l e R s m args below meth c H locs cells slots Q (F0 m pc ls st0) := by
  obtain ⟨hx, hb, hml, -, hown, hts, -⟩ := hC
  exact xb_callq (va_runS (As := As) (rest := rest) ⟨hx, hb, hml, hown, hts⟩ (hM H.size) (cwS As.length hts hG rfl rfl rfl hd ⟨hRf, hRl⟩) ⟨xc_P.blind, fun U hU hw => ⟨rfl, by rw [hU], hW.to hX hS hU hw.alike, by rw [hU]; exact hE⟩⟩ rfl rfl hls hst (lv_room hrm) hdg ⟨hRc, hRs⟩) hS (xk_A hS) (xk_A hS)
    (fun v t locs1 _ hB hz hk hS1 => kk v t.heap locs1 hB.1 hB.2.1 hS1 (xw_F.call hz hk))
/-- ends -/
theorem xr_V (hC : xh_C p s m args meth c own cc nL none) (hW : xw_W g B o lim σ0 s) (hX : xw_R g B o σ H) (hS : va_S (xw_A o s.heap.size) s.heap H locs) (hc : cells ≤ mc) (hs : slots ≤ ms) (he : σ = τ) (hdg : decode cc pc = .ok (.return_, 1)) :
    W p l e R s m args below meth c H locs cells slots (MQ below (xb_V (fun t => xw_W g B o lim τ t) (xw_A o s.heap.size)) args s mc ms (xw_A o s.heap.size)) (F0 m pc ls []) := by
  obtain ⟨hx, hb, -, hr, -, -, hlk⟩ := hC
  subst he
  exact W.widen hc hs (W.vret hx hb hr (fun t ht hw => ⟨⟨rfl, hW.to hX hS ht hw.alike⟩, hS.F ht⟩) hS.2.2 hdg hlk)
theorem xr_I (hC : xh_C p s m args meth c own cc nL (some .int)) (hW : xw_W g B o lim σ0 s) (hX : xw_R g B o σ H) (hS : va_S (xw_A o s.heap.size) s.heap H locs) (hc : cells ≤ mc) (hs : slots ≤ ms) (he : σ = τ) {v : Int32} (hv : val (.int v) H) (hdg : decode cc pc = .ok (.ireturn, 1)) :
    W p l e R s m args below meth c H locs cells slots (MQ below (xb_Q (fun v t => val v t.heap ∧ xw_W g B o lim τ t) (xw_A o s.heap.size)) args s mc ms (xw_A o s.heap.size)) (F0 m pc ls [.int v]) := by
  obtain ⟨hx, hb, -, hr, -, -, hlk⟩ := hC
  subst he
  exact W.widen hc hs (W.iret hx hb hr (fun t ht hw => ⟨⟨.int v, rfl, by rw [ht]; exact hv, hW.to hX hS ht hw.alike⟩, hS.F ht⟩) hS.2.2 hdg hlk)
theorem xr_Z (hC : xh_C p s m args meth c own cc nL (some .boolean)) (hW : xw_W g B o lim σ0 s) (hX : xw_R g B o σ H) (hS : va_S (xw_A o s.heap.size) s.heap H locs) (hc : cells ≤ mc) (hs : slots ≤ ms) (he : σ = τ) {v : Int32} (hn : narrow .boolean (.int v) = .int v) (hv : val (.int v) H) (hdg : decode cc pc = .ok (.ireturn, 1)) :
    W p l e R s m args below meth c H locs cells slots (MQ below (xb_Q (fun v t => val v t.heap ∧ xw_W g B o lim τ t) (xw_A o s.heap.size)) args s mc ms (xw_A o s.heap.size)) (F0 m pc ls [.int v]) := by
  obtain ⟨hx, hb, -, hr, -, -, hlk⟩ := hC
  subst he
  exact W.widen hc hs (W.zret hx hb hr hn (fun t ht hw => ⟨⟨.int v, rfl, by rw [ht]; exact hv, hW.to hX hS ht hw.alike⟩, hS.F ht⟩) hS.2.2 hdg hlk)
theorem xr_R {rt : String} (hC : xh_C p s m args meth c own cc nL (some (.object rt))) (hW : xw_W g B o lim σ0 s) (hX : xw_R g B o σ H) (hS : va_S (xw_A o s.heap.size) s.heap H locs) (hc : cells ≤ mc) (hs : slots ≤ ms) (he : σ = τ) {v : Value} (hn : v = .null ∨ ∃ a, v = .ref a) (hv : val v H) (hdg : decode cc pc = .ok (.areturn, 1)) :
    W p l e R s m args below meth c H locs cells slots (MQ below (xb_Q (fun v t => val v t.heap ∧ xw_W g B o lim τ t) (xw_A o s.heap.size)) args s mc ms (xw_A o s.heap.size)) (F0 m pc ls [v]) := by
  obtain ⟨hx, hb, -, hr, -, -, hlk⟩ := hC
  subst he
  exact W.widen hc hs (W.aret hx hb hr (Or.inl ⟨rt, rfl⟩) hn (fun t ht hw => ⟨⟨v, rfl, by rw [ht]; exact hv, hW.to hX hS ht hw.alike⟩, hS.F ht⟩) hS.2.2 hdg hlk)
end XK
end
section
/-! Rows of fields: what is read, what is written. -/
section XP
variable {p : Program} {l : Launch} {e : Env} {R : Room} {s : State} {m : MethodId} {args : Array Value} {below : List Frame} {meth : Method} {c : Code} {H : Heap} {locs : List Loc} {cells slots : Nat} {Q : State → Prop}
variable {cc : ByteArray} {pc nL : Nat} {ls : Array Slot} {rest : List Value} {g : xw_G} {B : Nat → Prop} {o lim a : Nat} {σ : xs_S} {ret0 : Option FieldType}
theorem xw_inC {i : Nat} (hi : i < 6) : xw_B o (o + 36 + 3 * i) := by unfold xw_B; omega
theorem xw_inA {i : Nat} (hi : i < 8) : xw_B o (o + 3 + 4 * i) := by unfold xw_B; omega
theorem xw_inM {i : Nat} (hi : i < 8) : xw_B o (o + 4 + 4 * i) := by unfold xw_B; omega
theorem xw_in0 : xw_B o o := by unfold xw_B; omega
theorem xw_inQ {n : Nat} (hn : n < 15) : xw_B o (o + xs_qo n) := by have := xw_qo3 hn; unfold xw_B; omega
theorem xw_inP {n : Nat} (hn : n < 15) : xw_B o (o + xs_qo n + 1) := by have := xw_qo3 hn; unfold xw_B; omega
theorem xs_bn (b : Bool) : narrow .boolean (.int (xs_b b)) = .int (xs_b b) := by cases b <;> rfl
theorem xs_bf (b : Bool) : fits .boolean (.int (xs_b b)) = true := by cases b <;> rfl
theorem xw_Sput {A : Nat → Prop} {H0 H1 : Heap} {lc : Loc} (h : va_S A H0 H locs) (z : H1.size = H.size) (oq : ∀ q : Nat, q ≠ a → H1[q]? = H[q]?) (hlc : lc.base = a) (ha : A a) : va_S A H0 H1 (locs ++ [lc]) := by
  refine ⟨by rw [z]; exact h.1, fun q h1 h2 => ?_, fun q hq => ?_⟩
  · rw [oq q (fun e => h2 (by rw [e]; exact ha))]
    exact h.2.1 q h1 h2
  · rcases List.mem_append.mp hq with h1 | h1
    · exact h.2.2 q h1
    · rw [List.mem_singleton.mp h1, hlc]
      exact ha
theorem xw_Snew {A : Nat → Prop} {H0 H1 : Heap} (h : va_S A H0 H locs) (z : H1.size = H.size + 1) (oq : ∀ q : Nat, q < H.size → H1[q]? = H[q]?) : va_S A H0 H1 locs :=
  ⟨by rw [z]; exact Nat.le_succ_of_le h.1, fun q h1 h2 => (oq q (Nat.lt_of_lt_of_le h1 h.1)).trans (h.2.1 q h1 h2), h.2.2⟩
theorem gf_A_A_marks (hx : p.tables.exec = Jvm.exec) (hb : c.code = cc) (hts : ∀ w ∈ xw_ws, w.before args s = true) (hown : s.vm.findClass R_A = some m.cls) (hK : xw_K g s) {fs : List Value} (hat : va_at g.1 vwCl (a, .inr (xi_A, fs)) H) {v : Value} (hv : fs[0]? = some v) (hdg : decode cc pc = .ok (.getfield 9, 3)) (kk : W p l e R s m args below meth c H locs cells slots Q (F0 m (pc + 3) ls (v :: rest))) : W p l e R s m args below meth c H locs cells slots Q (F0 m pc ls (.ref a :: rest)) :=
  xb_get hx hb hts xw_in_A hown hK (ci := xi_A) rfl 0 (by decide) (hts _ lk_A_9) rfl hat hv hdg kk
theorem gf_C_C_account (hx : p.tables.exec = Jvm.exec) (hb : c.code = cc) (hts : ∀ w ∈ xw_ws, w.before args s = true) (hown : s.vm.findClass R_C = some m.cls) (hK : xw_K g s) {fs : List Value} (hat : va_at g.1 vwCl (a, .inr (xi_C, fs)) H) {v : Value} (hv : fs[2]? = some v) (hdg : decode cc pc = .ok (.getfield 24, 3)) (kk : W p l e R s m args below meth c H locs cells slots Q (F0 m (pc + 3) ls (v :: rest))) : W p l e R s m args below meth c H locs cells slots Q (F0 m pc ls (.ref a :: rest)) :=
  xb_get hx hb hts xw_in_C hown hK (ci := xi_C) rfl 2 (by decide) (hts _ lk_C_24) rfl hat hv hdg kk
theorem gf_C_C_available (hx : p.tables.exec = Jvm.exec) (hb : c.code = cc) (hts : ∀ w ∈ xw_ws, w.before args s = true) (hown : s.vm.findClass R_C = some m.cls) (hK : xw_K g s) {fs : List Value} (hat : va_at g.1 vwCl (a, .inr (xi_C, fs)) H) {v : Value} (hv : fs[6]? = some v) (hdg : decode cc pc = .ok (.getfield 36, 3)) (kk : W p l e R s m args below meth c H locs cells slots Q (F0 m (pc + 3) ls (v :: rest))) : W p l e R s m args below meth c H locs cells slots Q (F0 m pc ls (.ref a :: rest)) :=
  xb_get hx hb hts xw_in_C hown hK (ci := xi_C) rfl 6 (by decide) (hts _ lk_C_36) rfl hat hv hdg kk
theorem gf_Q_Q_lost (hx : p.tables.exec = Jvm.exec) (hb : c.code = cc) (hts : ∀ w ∈ xw_ws, w.before args s = true) (hown : s.vm.findClass R_Q = some m.cls) (hK : xw_K g s) {fs : List Value} (hat : va_at g.1 vwCl (a, .inr (xi_Q, fs)) H) {v : Value} (hv : fs[2]? = some v) (hdg : decode cc pc = .ok (.getfield 19, 3)) (kk : W p l e R s m args below meth c H locs cells slots Q (F0 m (pc + 3) ls (v :: rest))) : W p l e R s m args below meth c H locs cells slots Q (F0 m pc ls (.ref a :: rest)) :=
  xb_get hx hb hts xw_in_Q hown hK (ci := xi_Q) rfl 2 (by decide) (hts _ lk_Q_19) rfl hat hv hdg kk
theorem gf_Q_Q_places (hx : p.tables.exec = Jvm.exec) (hb : c.code = cc) (hts : ∀ w ∈ xw_ws, w.before args s = true) (hown : s.vm.findClass R_Q = some m.cls) (hK : xw_K g s) {fs : List Value} (hat : va_at g.1 vwCl (a, .inr (xi_Q, fs)) H) {v : Value} (hv : fs[0]? = some v) (hdg : decode cc pc = .ok (.getfield 9, 3)) (kk : W p l e R s m args below meth c H locs cells slots Q (F0 m (pc + 3) ls (v :: rest))) : W p l e R s m args below meth c H locs cells slots Q (F0 m pc ls (.ref a :: rest)) :=
  xb_get hx hb hts xw_in_Q hown hK (ci := xi_Q) rfl 0 (by decide) (hts _ lk_Q_9) rfl hat hv hdg kk
theorem gf_Q_Q_size (hx : p.tables.exec = Jvm.exec) (hb : c.code = cc) (hts : ∀ w ∈ xw_ws, w.before args s = true) (hown : s.vm.findClass R_Q = some m.cls) (hK : xw_K g s) {fs : List Value} (hat : va_at g.1 vwCl (a, .inr (xi_Q, fs)) H) {v : Value} (hv : fs[1]? = some v) (hdg : decode cc pc = .ok (.getfield 15, 3)) (kk : W p l e R s m args below meth c H locs cells slots Q (F0 m (pc + 3) ls (v :: rest))) : W p l e R s m args below meth c H locs cells slots Q (F0 m pc ls (.ref a :: rest)) :=
  xb_get hx hb hts xw_in_Q hown hK (ci := xi_Q) rfl 1 (by decide) (hts _ lk_Q_15) rfl hat hv hdg kk
theorem gf_X_A_kept (hx : p.tables.exec = Jvm.exec) (hb : c.code = cc) (hts : ∀ w ∈ xw_ws, w.before args s = true) (hown : s.vm.findClass R_X = some m.cls) (hK : xw_K g s) {fs : List Value} (hat : va_at g.1 vwCl (a, .inr (xi_A, fs)) H) {v : Value} (hv : fs[1]? = some v) (hdg : decode cc pc = .ok (.getfield 172, 3)) (kk : W p l e R s m args below meth c H locs cells slots Q (F0 m (pc + 3) ls (v :: rest))) : W p l e R s m args below meth c H locs cells slots Q (F0 m pc ls (.ref a :: rest)) :=
  xb_get hx hb hts xw_in_A hown hK (ci := xi_A) rfl 1 (by decide) (hts _ lk_X_172) rfl hat hv hdg kk
theorem gf_X_A_marks (hx : p.tables.exec = Jvm.exec) (hb : c.code = cc) (hts : ∀ w ∈ xw_ws, w.before args s = true) (hown : s.vm.findClass R_X = some m.cls) (hK : xw_K g s) {fs : List Value} (hat : va_at g.1 vwCl (a, .inr (xi_A, fs)) H) {v : Value} (hv : fs[0]? = some v) (hdg : decode cc pc = .ok (.getfield 161, 3)) (kk : W p l e R s m args below meth c H locs cells slots Q (F0 m (pc + 3) ls (v :: rest))) : W p l e R s m args below meth c H locs cells slots Q (F0 m pc ls (.ref a :: rest)) :=
  xb_get hx hb hts xw_in_A hown hK (ci := xi_A) rfl 0 (by decide) (hts _ lk_X_161) rfl hat hv hdg kk
theorem gf_X_A_password (hx : p.tables.exec = Jvm.exec) (hb : c.code = cc) (hts : ∀ w ∈ xw_ws, w.before args s = true) (hown : s.vm.findClass R_X = some m.cls) (hK : xw_K g s) {fs : List Value} (hat : va_at g.1 vwCl (a, .inr (xi_A, fs)) H) {v : Value} (hv : fs[3]? = some v) (hdg : decode cc pc = .ok (.getfield 65, 3)) (kk : W p l e R s m args below meth c H locs cells slots Q (F0 m (pc + 3) ls (v :: rest))) : W p l e R s m args below meth c H locs cells slots Q (F0 m pc ls (.ref a :: rest)) :=
  xb_get hx hb hts xw_in_A hown hK (ci := xi_A) rfl 3 (by decide) (hts _ lk_X_65) rfl hat hv hdg kk
theorem gf_X_A_registered (hx : p.tables.exec = Jvm.exec) (hb : c.code = cc) (hts : ∀ w ∈ xw_ws, w.before args s = true) (hown : s.vm.findClass R_X = some m.cls) (hK : xw_K g s) {fs : List Value} (hat : va_at g.1 vwCl (a, .inr (xi_A, fs)) H) {v : Value} (hv : fs[2]? = some v) (hdg : decode cc pc = .ok (.getfield 59, 3)) (kk : W p l e R s m args below meth c H locs cells slots Q (F0 m (pc + 3) ls (v :: rest))) : W p l e R s m args below meth c H locs cells slots Q (F0 m pc ls (.ref a :: rest)) :=
  xb_get hx hb hts xw_in_A hown hK (ci := xi_A) rfl 2 (by decide) (hts _ lk_X_59) rfl hat hv hdg kk
theorem gf_X_C_account (hx : p.tables.exec = Jvm.exec) (hb : c.code = cc) (hts : ∀ w ∈ xw_ws, w.before args s = true) (hown : s.vm.findClass R_X = some m.cls) (hK : xw_K g s) {fs : List Value} (hat : va_at g.1 vwCl (a, .inr (xi_C, fs)) H) {v : Value} (hv : fs[2]? = some v) (hdg : decode cc pc = .ok (.getfield 80, 3)) (kk : W p l e R s m args below meth c H locs cells slots Q (F0 m (pc + 3) ls (v :: rest))) : W p l e R s m args below meth c H locs cells slots Q (F0 m pc ls (.ref a :: rest)) :=
  xb_get hx hb hts xw_in_C hown hK (ci := xi_C) rfl 2 (by decide) (hts _ lk_X_80) rfl hat hv hdg kk
theorem gf_X_C_available (hx : p.tables.exec = Jvm.exec) (hb : c.code = cc) (hts : ∀ w ∈ xw_ws, w.before args s = true) (hown : s.vm.findClass R_X = some m.cls) (hK : xw_K g s) {fs : List Value} (hat : va_at g.1 vwCl (a, .inr (xi_C, fs)) H) {v : Value} (hv : fs[6]? = some v) (hdg : decode cc pc = .ok (.getfield 104, 3)) (kk : W p l e R s m args below meth c H locs cells slots Q (F0 m (pc + 3) ls (v :: rest))) : W p l e R s m args below meth c H locs cells slots Q (F0 m pc ls (.ref a :: rest)) :=
  xb_get hx hb hts xw_in_C hown hK (ci := xi_C) rfl 6 (by decide) (hts _ lk_X_104) rfl hat hv hdg kk
theorem gf_X_C_challenge (hx : p.tables.exec = Jvm.exec) (hb : c.code = cc) (hts : ∀ w ∈ xw_ws, w.before args s = true) (hown : s.vm.findClass R_X = some m.cls) (hK : xw_K g s) {fs : List Value} (hat : va_at g.1 vwCl (a, .inr (xi_C, fs)) H) {v : Value} (hv : fs[5]? = some v) (hdg : decode cc pc = .ok (.getfield 83, 3)) (kk : W p l e R s m args below meth c H locs cells slots Q (F0 m (pc + 3) ls (v :: rest))) : W p l e R s m args below meth c H locs cells slots Q (F0 m pc ls (.ref a :: rest)) :=
  xb_get hx hb hts xw_in_C hown hK (ci := xi_C) rfl 5 (by decide) (hts _ lk_X_83) rfl hat hv hdg kk
theorem gf_X_C_inbox (hx : p.tables.exec = Jvm.exec) (hb : c.code = cc) (hts : ∀ w ∈ xw_ws, w.before args s = true) (hown : s.vm.findClass R_X = some m.cls) (hK : xw_K g s) {fs : List Value} (hat : va_at g.1 vwCl (a, .inr (xi_C, fs)) H) {v : Value} (hv : fs[0]? = some v) (hdg : decode cc pc = .ok (.getfield 74, 3)) (kk : W p l e R s m args below meth c H locs cells slots Q (F0 m (pc + 3) ls (v :: rest))) : W p l e R s m args below meth c H locs cells slots Q (F0 m pc ls (.ref a :: rest)) :=
  xb_get hx hb hts xw_in_C hown hK (ci := xi_C) rfl 0 (by decide) (hts _ lk_X_74) rfl hat hv hdg kk
theorem gf_X_C_priority (hx : p.tables.exec = Jvm.exec) (hb : c.code = cc) (hts : ∀ w ∈ xw_ws, w.before args s = true) (hown : s.vm.findClass R_X = some m.cls) (hK : xw_K g s) {fs : List Value} (hat : va_at g.1 vwCl (a, .inr (xi_C, fs)) H) {v : Value} (hv : fs[4]? = some v) (hdg : decode cc pc = .ok (.getfield 107, 3)) (kk : W p l e R s m args below meth c H locs cells slots Q (F0 m (pc + 3) ls (v :: rest))) : W p l e R s m args below meth c H locs cells slots Q (F0 m pc ls (.ref a :: rest)) :=
  xb_get hx hb hts xw_in_C hown hK (ci := xi_C) rfl 4 (by decide) (hts _ lk_X_107) rfl hat hv hdg kk
theorem gf_X_C_resource (hx : p.tables.exec = Jvm.exec) (hb : c.code = cc) (hts : ∀ w ∈ xw_ws, w.before args s = true) (hown : s.vm.findClass R_X = some m.cls) (hK : xw_K g s) {fs : List Value} (hat : va_at g.1 vwCl (a, .inr (xi_C, fs)) H) {v : Value} (hv : fs[3]? = some v) (hdg : decode cc pc = .ok (.getfield 101, 3)) (kk : W p l e R s m args below meth c H locs cells slots Q (F0 m (pc + 3) ls (v :: rest))) : W p l e R s m args below meth c H locs cells slots Q (F0 m pc ls (.ref a :: rest)) :=
  xb_get hx hb hts xw_in_C hown hK (ci := xi_C) rfl 3 (by decide) (hts _ lk_X_101) rfl hat hv hdg kk
theorem gf_X_C_stage (hx : p.tables.exec = Jvm.exec) (hb : c.code = cc) (hts : ∀ w ∈ xw_ws, w.before args s = true) (hown : s.vm.findClass R_X = some m.cls) (hK : xw_K g s) {fs : List Value} (hat : va_at g.1 vwCl (a, .inr (xi_C, fs)) H) {v : Value} (hv : fs[1]? = some v) (hdg : decode cc pc = .ok (.getfield 71, 3)) (kk : W p l e R s m args below meth c H locs cells slots Q (F0 m (pc + 3) ls (v :: rest))) : W p l e R s m args below meth c H locs cells slots Q (F0 m pc ls (.ref a :: rest)) :=
  xb_get hx hb hts xw_in_C hown hK (ci := xi_C) rfl 1 (by decide) (hts _ lk_X_71) rfl hat hv hdg kk
theorem gf_X_Q_lost (hx : p.tables.exec = Jvm.exec) (hb : c.code = cc) (hts : ∀ w ∈ xw_ws, w.before args s = true) (hown : s.vm.findClass R_X = some m.cls) (hK : xw_K g s) {fs : List Value} (hat : va_at g.1 vwCl (a, .inr (xi_Q, fs)) H) {v : Value} (hv : fs[2]? = some v) (hdg : decode cc pc = .ok (.getfield 241, 3)) (kk : W p l e R s m args below meth c H locs cells slots Q (F0 m (pc + 3) ls (v :: rest))) : W p l e R s m args below meth c H locs cells slots Q (F0 m pc ls (.ref a :: rest)) :=
  xb_get hx hb hts xw_in_Q hown hK (ci := xi_Q) rfl 2 (by decide) (hts _ lk_X_241) rfl hat hv hdg kk
theorem gf_X_Q_size (hx : p.tables.exec = Jvm.exec) (hb : c.code = cc) (hts : ∀ w ∈ xw_ws, w.before args s = true) (hown : s.vm.findClass R_X = some m.cls) (hK : xw_K g s) {fs : List Value} (hat : va_at g.1 vwCl (a, .inr (xi_Q, fs)) H) {v : Value} (hv : fs[1]? = some v) (hdg : decode cc pc = .ok (.getfield 120, 3)) (kk : W p l e R s m args below meth c H locs cells slots Q (F0 m (pc + 3) ls (v :: rest))) : W p l e R s m args below meth c H locs cells slots Q (F0 m pc ls (.ref a :: rest)) :=
  xb_get hx hb hts xw_in_Q hown hK (ci := xi_Q) rfl 1 (by decide) (hts _ lk_X_120) rfl hat hv hdg kk
theorem gf_X_X_accounts (hx : p.tables.exec = Jvm.exec) (hb : c.code = cc) (hts : ∀ w ∈ xw_ws, w.before args s = true) (hown : s.vm.findClass R_X = some m.cls) (hK : xw_K g s) {fs : List Value} (hat : va_at g.1 vwCl (a, .inr (xi_X, fs)) H) {v : Value} (hv : fs[0]? = some v) (hdg : decode cc pc = .ok (.getfield 16, 3)) (kk : W p l e R s m args below meth c H locs cells slots Q (F0 m (pc + 3) ls (v :: rest))) : W p l e R s m args below meth c H locs cells slots Q (F0 m pc ls (.ref a :: rest)) :=
  xb_get hx hb hts xw_in_X hown hK (ci := xi_X) rfl 0 (by decide) (hts _ lk_X_16) rfl hat hv hdg kk
theorem gf_X_X_connections (hx : p.tables.exec = Jvm.exec) (hb : c.code = cc) (hts : ∀ w ∈ xw_ws, w.before args s = true) (hown : s.vm.findClass R_X = some m.cls) (hK : xw_K g s) {fs : List Value} (hat : va_at g.1 vwCl (a, .inr (xi_X, fs)) H) {v : Value} (hv : fs[1]? = some v) (hdg : decode cc pc = .ok (.getfield 25, 3)) (kk : W p l e R s m args below meth c H locs cells slots Q (F0 m (pc + 3) ls (v :: rest))) : W p l e R s m args below meth c H locs cells slots Q (F0 m pc ls (.ref a :: rest)) :=
  xb_get hx hb hts xw_in_X hown hK (ci := xi_X) rfl 1 (by decide) (hts _ lk_X_25) rfl hat hv hdg kk
theorem gf_X_X_lastTaken (hx : p.tables.exec = Jvm.exec) (hb : c.code = cc) (hts : ∀ w ∈ xw_ws, w.before args s = true) (hown : s.vm.findClass R_X = some m.cls) (hK : xw_K g s) {fs : List Value} (hat : va_at g.1 vwCl (a, .inr (xi_X, fs)) H) {v : Value} (hv : fs[5]? = some v) (hdg : decode cc pc = .ok (.getfield 47, 3)) (kk : W p l e R s m args below meth c H locs cells slots Q (F0 m (pc + 3) ls (v :: rest))) : W p l e R s m args below meth c H locs cells slots Q (F0 m pc ls (.ref a :: rest)) :=
  xb_get hx hb hts xw_in_X hown hK (ci := xi_X) rfl 5 (by decide) (hts _ lk_X_47) rfl hat hv hdg kk
theorem gf_X_X_linkUp (hx : p.tables.exec = Jvm.exec) (hb : c.code = cc) (hts : ∀ w ∈ xw_ws, w.before args s = true) (hown : s.vm.findClass R_X = some m.cls) (hK : xw_K g s) {fs : List Value} (hat : va_at g.1 vwCl (a, .inr (xi_X, fs)) H) {v : Value} (hv : fs[3]? = some v) (hdg : decode cc pc = .ok (.getfield 39, 3)) (kk : W p l e R s m args below meth c H locs cells slots Q (F0 m (pc + 3) ls (v :: rest))) : W p l e R s m args below meth c H locs cells slots Q (F0 m pc ls (.ref a :: rest)) :=
  xb_get hx hb hts xw_in_X hown hK (ci := xi_X) rfl 3 (by decide) (hts _ lk_X_39) rfl hat hv hdg kk
theorem gf_X_X_nextChallenge (hx : p.tables.exec = Jvm.exec) (hb : c.code = cc) (hts : ∀ w ∈ xw_ws, w.before args s = true) (hown : s.vm.findClass R_X = some m.cls) (hK : xw_K g s) {fs : List Value} (hat : va_at g.1 vwCl (a, .inr (xi_X, fs)) H) {v : Value} (hv : fs[4]? = some v) (hdg : decode cc pc = .ok (.getfield 43, 3)) (kk : W p l e R s m args below meth c H locs cells slots Q (F0 m (pc + 3) ls (v :: rest))) : W p l e R s m args below meth c H locs cells slots Q (F0 m pc ls (.ref a :: rest)) :=
  xb_get hx hb hts xw_in_X hown hK (ci := xi_X) rfl 4 (by decide) (hts _ lk_X_43) rfl hat hv hdg kk
theorem gf_X_X_waiting (hx : p.tables.exec = Jvm.exec) (hb : c.code = cc) (hts : ∀ w ∈ xw_ws, w.before args s = true) (hown : s.vm.findClass R_X = some m.cls) (hK : xw_K g s) {fs : List Value} (hat : va_at g.1 vwCl (a, .inr (xi_X, fs)) H) {v : Value} (hv : fs[2]? = some v) (hdg : decode cc pc = .ok (.getfield 35, 3)) (kk : W p l e R s m args below meth c H locs cells slots Q (F0 m (pc + 3) ls (v :: rest))) : W p l e R s m args below meth c H locs cells slots Q (F0 m pc ls (.ref a :: rest)) :=
  xb_get hx hb hts xw_in_X hown hK (ci := xi_X) rfl 2 (by decide) (hts _ lk_X_35) rfl hat hv hdg kk
theorem gf_X_Z_from (hx : p.tables.exec = Jvm.exec) (hb : c.code = cc) (hts : ∀ w ∈ xw_ws, w.before args s = true) (hown : s.vm.findClass R_X = some m.cls) (hK : xw_K g s) {fs : List Value} (hat : va_at g.1 vwCl (a, .inr (xi_Z, fs)) H) {v : Value} (hv : fs[1]? = some v) (hdg : decode cc pc = .ok (.getfield 151, 3)) (kk : W p l e R s m args below meth c H locs cells slots Q (F0 m (pc + 3) ls (v :: rest))) : W p l e R s m args below meth c H locs cells slots Q (F0 m pc ls (.ref a :: rest)) :=
  xb_get hx hb hts xw_in_Z hown hK (ci := xi_Z) rfl 1 (by decide) (hts _ lk_X_151) rfl hat hv hdg kk
theorem gf_X_Z_kind (hx : p.tables.exec = Jvm.exec) (hb : c.code = cc) (hts : ∀ w ∈ xw_ws, w.before args s = true) (hown : s.vm.findClass R_X = some m.cls) (hK : xw_K g s) {fs : List Value} (hat : va_at g.1 vwCl (a, .inr (xi_Z, fs)) H) {v : Value} (hv : fs[0]? = some v) (hdg : decode cc pc = .ok (.getfield 148, 3)) (kk : W p l e R s m args below meth c H locs cells slots Q (F0 m (pc + 3) ls (v :: rest))) : W p l e R s m args below meth c H locs cells slots Q (F0 m pc ls (.ref a :: rest)) :=
  xb_get hx hb hts xw_in_Z hown hK (ci := xi_Z) rfl 0 (by decide) (hts _ lk_X_148) rfl hat hv hdg kk
theorem gf_X_Z_resource (hx : p.tables.exec = Jvm.exec) (hb : c.code = cc) (hts : ∀ w ∈ xw_ws, w.before args s = true) (hown : s.vm.findClass R_X = some m.cls) (hK : xw_K g s) {fs : List Value} (hat : va_at g.1 vwCl (a, .inr (xi_Z, fs)) H) {v : Value} (hv : fs[2]? = some v) (hdg : decode cc pc = .ok (.getfield 154, 3)) (kk : W p l e R s m args below meth c H locs cells slots Q (F0 m (pc + 3) ls (v :: rest))) : W p l e R s m args below meth c H locs cells slots Q (F0 m pc ls (.ref a :: rest)) :=
  xb_get hx hb hts xw_in_Z hown hK (ci := xi_Z) rfl 2 (by decide) (hts _ lk_X_154) rfl hat hv hdg kk
theorem gf_X_Z_target (hx : p.tables.exec = Jvm.exec) (hb : c.code = cc) (hts : ∀ w ∈ xw_ws, w.before args s = true) (hown : s.vm.findClass R_X = some m.cls) (hK : xw_K g s) {fs : List Value} (hat : va_at g.1 vwCl (a, .inr (xi_Z, fs)) H) {v : Value} (hv : fs[5]? = some v) (hdg : decode cc pc = .ok (.getfield 231, 3)) (kk : W p l e R s m args below meth c H locs cells slots Q (F0 m (pc + 3) ls (v :: rest))) : W p l e R s m args below meth c H locs cells slots Q (F0 m pc ls (.ref a :: rest)) :=
  xb_get hx hb hts xw_in_Z hown hK (ci := xi_Z) rfl 5 (by decide) (hts _ lk_X_231) rfl hat hv hdg kk
theorem gf_X_Z_to (hx : p.tables.exec = Jvm.exec) (hb : c.code = cc) (hts : ∀ w ∈ xw_ws, w.before args s = true) (hown : s.vm.findClass R_X = some m.cls) (hK : xw_K g s) {fs : List Value} (hat : va_at g.1 vwCl (a, .inr (xi_Z, fs)) H) {v : Value} (hv : fs[4]? = some v) (hdg : decode cc pc = .ok (.getfield 205, 3)) (kk : W p l e R s m args below meth c H locs cells slots Q (F0 m (pc + 3) ls (v :: rest))) : W p l e R s m args below meth c H locs cells slots Q (F0 m pc ls (.ref a :: rest)) :=
  xb_get hx hb hts xw_in_Z hown hK (ci := xi_Z) rfl 4 (by decide) (hts _ lk_X_205) rfl hat hv hdg kk
theorem gf_X_Z_value (hx : p.tables.exec = Jvm.exec) (hb : c.code = cc) (hts : ∀ w ∈ xw_ws, w.before args s = true) (hown : s.vm.findClass R_X = some m.cls) (hK : xw_K g s) {fs : List Value} (hat : va_at g.1 vwCl (a, .inr (xi_Z, fs)) H) {v : Value} (hv : fs[3]? = some v) (hdg : decode cc pc = .ok (.getfield 155, 3)) (kk : W p l e R s m args below meth c H locs cells slots Q (F0 m (pc + 3) ls (v :: rest))) : W p l e R s m args below meth c H locs cells slots Q (F0 m pc ls (.ref a :: rest)) :=
  xb_get hx hb hts xw_in_Z hown hK (ci := xi_Z) rfl 3 (by decide) (hts _ lk_X_155) rfl hat hv hdg kk
theorem pf_X_A_password (hx : p.tables.exec = Jvm.exec) (hb : c.code = cc) (hts : ∀ w ∈ xw_ws, w.before args s = true) (hown : s.vm.findClass R_X = some m.cls) (hK : xw_K g s) (hX : xw_R g B o σ H) (hS : va_S (xw_A o s.heap.size) s.heap H locs) {i : Nat} (hi : i < 8) {v : Int32} (hdg : decode cc pc = .ok (.putfield 65, 3)) (kk : ∀ (H1 : Heap) (locs1 : List Loc), xw_R g B o (xs_sac σ i ((xs_ac σ i).1, v)) H1 → va_S (xw_A o s.heap.size) s.heap H1 locs1 → xw_F (xw_B o) H H1 → W p l e R s m args below meth c H1 locs1 cells slots Q (F0 m (pc + 3) ls rest)) : W p l e R s m args below meth c H locs cells slots Q (F0 m pc ls (.int v :: .ref (o + 3 + 4 * i) :: rest)) :=
  xb_put hx hb hts xw_in_A t_A t_A_ok n_A hown hK (ci := xi_A) rfl 3 (by decide) (hts _ lk_X_65) rfl rfl (hX.2.2.2.1 i hi) rfl rfl (Nat.le_of_ble_eq_true rfl) hdg (fun H1 lc hlc hat hz hq => kk H1 _ (hX.setA hi (xw_F.put hz hq) hat) (xw_Sput hS hz hq hlc (Or.inl (xw_inA hi))) ((xw_F.put hz hq).mono (fun q e => by rw [e]; exact (xw_inA hi))))
theorem pf_X_A_registered (hx : p.tables.exec = Jvm.exec) (hb : c.code = cc) (hts : ∀ w ∈ xw_ws, w.before args s = true) (hown : s.vm.findClass R_X = some m.cls) (hK : xw_K g s) (hX : xw_R g B o σ H) (hS : va_S (xw_A o s.heap.size) s.heap H locs) {i : Nat} (hi : i < 8) {b : Bool} (hdg : decode cc pc = .ok (.putfield 59, 3)) (kk : ∀ (H1 : Heap) (locs1 : List Loc), xw_R g B o (xs_sac σ i (b, (xs_ac σ i).2)) H1 → va_S (xw_A o s.heap.size) s.heap H1 locs1 → xw_F (xw_B o) H H1 → W p l e R s m args below meth c H1 locs1 cells slots Q (F0 m (pc + 3) ls rest)) : W p l e R s m args below meth c H locs cells slots Q (F0 m pc ls (.int (xs_b b) :: .ref (o + 3 + 4 * i) :: rest)) :=
  xb_put hx hb hts xw_in_A t_A t_A_ok n_A hown hK (ci := xi_A) rfl 2 (by decide) (hts _ lk_X_59) rfl rfl (hX.2.2.2.1 i hi) (xs_bn b) (xs_bf b) (Nat.le_of_ble_eq_true rfl) hdg (fun H1 lc hlc hat hz hq => kk H1 _ (hX.setA hi (xw_F.put hz hq) hat) (xw_Sput hS hz hq hlc (Or.inl (xw_inA hi))) ((xw_F.put hz hq).mono (fun q e => by rw [e]; exact (xw_inA hi))))
theorem pf_X_C_account (hx : p.tables.exec = Jvm.exec) (hb : c.code = cc) (hts : ∀ w ∈ xw_ws, w.before args s = true) (hown : s.vm.findClass R_X = some m.cls) (hK : xw_K g s) (hX : xw_R g B o σ H) (hS : va_S (xw_A o s.heap.size) s.heap H locs) {i : Nat} (hi : i < 6) {v : Int32} (hdg : decode cc pc = .ok (.putfield 80, 3)) (kk : ∀ (H1 : Heap) (locs1 : List Loc), xw_R g B o (xm_sacc σ i v) H1 → va_S (xw_A o s.heap.size) s.heap H1 locs1 → xw_F (xw_B o) H H1 → W p l e R s m args below meth c H1 locs1 cells slots Q (F0 m (pc + 3) ls rest)) : W p l e R s m args below meth c H locs cells slots Q (F0 m pc ls (.int v :: .ref (o + 36 + 3 * i) :: rest)) :=
  xb_put hx hb hts xw_in_C t_C t_C_ok n_C hown hK (ci := xi_C) rfl 2 (by decide) (hts _ lk_X_80) rfl rfl (hX.2.2.2.2.2.1 i hi) rfl rfl (Nat.le_of_ble_eq_true rfl) hdg (fun H1 lc hlc hat hz hq => kk H1 _ (hX.setC hi (xw_F.put hz hq) hat) (xw_Sput hS hz hq hlc (Or.inl (xw_inC hi))) ((xw_F.put hz hq).mono (fun q e => by rw [e]; exact (xw_inC hi))))
theorem pf_X_C_available (hx : p.tables.exec = Jvm.exec) (hb : c.code = cc) (hts : ∀ w ∈ xw_ws, w.before args s = true) (hown : s.vm.findClass R_X = some m.cls) (hK : xw_K g s) (hX : xw_R g B o σ H) (hS : va_S (xw_A o s.heap.size) s.heap H locs) {i : Nat} (hi : i < 6) {b : Bool} (hdg : decode cc pc = .ok (.putfield 104, 3)) (kk : ∀ (H1 : Heap) (locs1 : List Loc), xw_R g B o (xm_sav σ i b) H1 → va_S (xw_A o s.heap.size) s.heap H1 locs1 → xw_F (xw_B o) H H1 → W p l e R s m args below meth c H1 locs1 cells slots Q (F0 m (pc + 3) ls rest)) : W p l e R s m args below meth c H locs cells slots Q (F0 m pc ls (.int (xs_b b) :: .ref (o + 36 + 3 * i) :: rest)) :=
  xb_put hx hb hts xw_in_C t_C t_C_ok n_C hown hK (ci := xi_C) rfl 6 (by decide) (hts _ lk_X_104) rfl rfl (hX.2.2.2.2.2.1 i hi) (xs_bn b) (xs_bf b) (Nat.le_of_ble_eq_true rfl) hdg (fun H1 lc hlc hat hz hq => kk H1 _ (hX.setC hi (xw_F.put hz hq) hat) (xw_Sput hS hz hq hlc (Or.inl (xw_inC hi))) ((xw_F.put hz hq).mono (fun q e => by rw [e]; exact (xw_inC hi))))
theorem pf_X_C_challenge (hx : p.tables.exec = Jvm.exec) (hb : c.code = cc) (hts : ∀ w ∈ xw_ws, w.before args s = true) (hown : s.vm.findClass R_X = some m.cls) (hK : xw_K g s) (hX : xw_R g B o σ H) (hS : va_S (xw_A o s.heap.size) s.heap H locs) {i : Nat} (hi : i < 6) {v : Int32} (hdg : decode cc pc = .ok (.putfield 83, 3)) (kk : ∀ (H1 : Heap) (locs1 : List Loc), xw_R g B o (xm_sch σ i v) H1 → va_S (xw_A o s.heap.size) s.heap H1 locs1 → xw_F (xw_B o) H H1 → W p l e R s m args below meth c H1 locs1 cells slots Q (F0 m (pc + 3) ls rest)) : W p l e R s m args below meth c H locs cells slots Q (F0 m pc ls (.int v :: .ref (o + 36 + 3 * i) :: rest)) :=
  xb_put hx hb hts xw_in_C t_C t_C_ok n_C hown hK (ci := xi_C) rfl 5 (by decide) (hts _ lk_X_83) rfl rfl (hX.2.2.2.2.2.1 i hi) rfl rfl (Nat.le_of_ble_eq_true rfl) hdg (fun H1 lc hlc hat hz hq => kk H1 _ (hX.setC hi (xw_F.put hz hq) hat) (xw_Sput hS hz hq hlc (Or.inl (xw_inC hi))) ((xw_F.put hz hq).mono (fun q e => by rw [e]; exact (xw_inC hi))))
theorem pf_X_C_priority (hx : p.tables.exec = Jvm.exec) (hb : c.code = cc) (hts : ∀ w ∈ xw_ws, w.before args s = true) (hown : s.vm.findClass R_X = some m.cls) (hK : xw_K g s) (hX : xw_R g B o σ H) (hS : va_S (xw_A o s.heap.size) s.heap H locs) {i : Nat} (hi : i < 6) {v : Int32} (hdg : decode cc pc = .ok (.putfield 107, 3)) (kk : ∀ (H1 : Heap) (locs1 : List Loc), xw_R g B o (xm_spr σ i v) H1 → va_S (xw_A o s.heap.size) s.heap H1 locs1 → xw_F (xw_B o) H H1 → W p l e R s m args below meth c H1 locs1 cells slots Q (F0 m (pc + 3) ls rest)) : W p l e R s m args below meth c H locs cells slots Q (F0 m pc ls (.int v :: .ref (o + 36 + 3 * i) :: rest)) :=
  xb_put hx hb hts xw_in_C t_C t_C_ok n_C hown hK (ci := xi_C) rfl 4 (by decide) (hts _ lk_X_107) rfl rfl (hX.2.2.2.2.2.1 i hi) rfl rfl (Nat.le_of_ble_eq_true rfl) hdg (fun H1 lc hlc hat hz hq => kk H1 _ (hX.setC hi (xw_F.put hz hq) hat) (xw_Sput hS hz hq hlc (Or.inl (xw_inC hi))) ((xw_F.put hz hq).mono (fun q e => by rw [e]; exact (xw_inC hi))))
theorem pf_X_C_resource (hx : p.tables.exec = Jvm.exec) (hb : c.code = cc) (hts : ∀ w ∈ xw_ws, w.before args s = true) (hown : s.vm.findClass R_X = some m.cls) (hK : xw_K g s) (hX : xw_R g B o σ H) (hS : va_S (xw_A o s.heap.size) s.heap H locs) {i : Nat} (hi : i < 6) {v : Int32} (hdg : decode cc pc = .ok (.putfield 101, 3)) (kk : ∀ (H1 : Heap) (locs1 : List Loc), xw_R g B o (xm_srs σ i v) H1 → va_S (xw_A o s.heap.size) s.heap H1 locs1 → xw_F (xw_B o) H H1 → W p l e R s m args below meth c H1 locs1 cells slots Q (F0 m (pc + 3) ls rest)) : W p l e R s m args below meth c H locs cells slots Q (F0 m pc ls (.int v :: .ref (o + 36 + 3 * i) :: rest)) :=
  xb_put hx hb hts xw_in_C t_C t_C_ok n_C hown hK (ci := xi_C) rfl 3 (by decide) (hts _ lk_X_101) rfl rfl (hX.2.2.2.2.2.1 i hi) rfl rfl (Nat.le_of_ble_eq_true rfl) hdg (fun H1 lc hlc hat hz hq => kk H1 _ (hX.setC hi (xw_F.put hz hq) hat) (xw_Sput hS hz hq hlc (Or.inl (xw_inC hi))) ((xw_F.put hz hq).mono (fun q e => by rw [e]; exact (xw_inC hi))))
theorem pf_X_C_stage (hx : p.tables.exec = Jvm.exec) (hb : c.code = cc) (hts : ∀ w ∈ xw_ws, w.before args s = true) (hown : s.vm.findClass R_X = some m.cls) (hK : xw_K g s) (hX : xw_R g B o σ H) (hS : va_S (xw_A o s.heap.size) s.heap H locs) {i : Nat} (hi : i < 6) {v : Int32} (hdg : decode cc pc = .ok (.putfield 71, 3)) (kk : ∀ (H1 : Heap) (locs1 : List Loc), xw_R g B o (xm_sst σ i v) H1 → va_S (xw_A o s.heap.size) s.heap H1 locs1 → xw_F (xw_B o) H H1 → W p l e R s m args below meth c H1 locs1 cells slots Q (F0 m (pc + 3) ls rest)) : W p l e R s m args below meth c H locs cells slots Q (F0 m pc ls (.int v :: .ref (o + 36 + 3 * i) :: rest)) :=
  xb_put hx hb hts xw_in_C t_C t_C_ok n_C hown hK (ci := xi_C) rfl 1 (by decide) (hts _ lk_X_71) rfl rfl (hX.2.2.2.2.2.1 i hi) rfl rfl (Nat.le_of_ble_eq_true rfl) hdg (fun H1 lc hlc hat hz hq => kk H1 _ (hX.setC hi (xw_F.put hz hq) hat) (xw_Sput hS hz hq hlc (Or.inl (xw_inC hi))) ((xw_F.put hz hq).mono (fun q e => by rw [e]; exact (xw_inC hi))))
theorem pf_X_X_lastTaken (hx : p.tables.exec = Jvm.exec) (hb : c.code = cc) (hts : ∀ w ∈ xw_ws, w.before args s = true) (hown : s.vm.findClass R_X = some m.cls) (hK : xw_K g s) (hX : xw_R g B o σ H) (hS : va_S (xw_A o s.heap.size) s.heap H locs)  {b : Nat} {z : xs_Z} (hz8 : xw_Z g B b z H) (hdg : decode cc pc = .ok (.putfield 47, 3)) (kk : ∀ (H1 : Heap) (locs1 : List Loc), xw_R g B o (xs_sg σ (xs_up σ) (xs_nx σ) (some z)) H1 → va_S (xw_A o s.heap.size) s.heap H1 locs1 → xw_F (xw_B o) H H1 → W p l e R s m args below meth c H1 locs1 cells slots Q (F0 m (pc + 3) ls rest)) : W p l e R s m args below meth c H locs cells slots Q (F0 m pc ls (.ref b :: .ref o :: rest)) :=
  by
  obtain ⟨v9, h9, hL9⟩ := hX.1
  exact xb_put hx hb hts xw_in_X t_X t_X_ok n_X hown hK (ci := xi_X) rfl 5 (by decide) (hts _ lk_X_47) rfl rfl h9 rfl rfl (Nat.le_of_ble_eq_true rfl) hdg (fun H1 lc hlc hat hz hq => kk H1 _ (hX.setG (xw_F.put hz hq) hat ⟨b, rfl, hz8⟩) (xw_Sput hS hz hq hlc (Or.inl xw_in0)) ((xw_F.put hz hq).mono (fun q e => by rw [e]; exact xw_in0)))
theorem pf_X_X_linkUp (hx : p.tables.exec = Jvm.exec) (hb : c.code = cc) (hts : ∀ w ∈ xw_ws, w.before args s = true) (hown : s.vm.findClass R_X = some m.cls) (hK : xw_K g s) (hX : xw_R g B o σ H) (hS : va_S (xw_A o s.heap.size) s.heap H locs)  {b : Bool} (hdg : decode cc pc = .ok (.putfield 39, 3)) (kk : ∀ (H1 : Heap) (locs1 : List Loc), xw_R g B o (xs_sg σ b (xs_nx σ) (xs_lt σ)) H1 → va_S (xw_A o s.heap.size) s.heap H1 locs1 → xw_F (xw_B o) H H1 → W p l e R s m args below meth c H1 locs1 cells slots Q (F0 m (pc + 3) ls rest)) : W p l e R s m args below meth c H locs cells slots Q (F0 m pc ls (.int (xs_b b) :: .ref o :: rest)) :=
  by
  obtain ⟨v9, h9, hL9⟩ := hX.1
  exact xb_put hx hb hts xw_in_X t_X t_X_ok n_X hown hK (ci := xi_X) rfl 3 (by decide) (hts _ lk_X_39) rfl rfl h9 (xs_bn b) (xs_bf b) (Nat.le_of_ble_eq_true rfl) hdg (fun H1 lc hlc hat hz hq => kk H1 _ (hX.setG (xw_F.put hz hq) hat hL9) (xw_Sput hS hz hq hlc (Or.inl xw_in0)) ((xw_F.put hz hq).mono (fun q e => by rw [e]; exact xw_in0)))
theorem pf_X_X_nextChallenge (hx : p.tables.exec = Jvm.exec) (hb : c.code = cc) (hts : ∀ w ∈ xw_ws, w.before args s = true) (hown : s.vm.findClass R_X = some m.cls) (hK : xw_K g s) (hX : xw_R g B o σ H) (hS : va_S (xw_A o s.heap.size) s.heap H locs)  {v : Int32} (hdg : decode cc pc = .ok (.putfield 43, 3)) (kk : ∀ (H1 : Heap) (locs1 : List Loc), xw_R g B o (xs_sg σ (xs_up σ) v (xs_lt σ)) H1 → va_S (xw_A o s.heap.size) s.heap H1 locs1 → xw_F (xw_B o) H H1 → W p l e R s m args below meth c H1 locs1 cells slots Q (F0 m (pc + 3) ls rest)) : W p l e R s m args below meth c H locs cells slots Q (F0 m pc ls (.int v :: .ref o :: rest)) :=
  by
  obtain ⟨v9, h9, hL9⟩ := hX.1
  exact xb_put hx hb hts xw_in_X t_X t_X_ok n_X hown hK (ci := xi_X) rfl 4 (by decide) (hts _ lk_X_43) rfl rfl h9 rfl rfl (Nat.le_of_ble_eq_true rfl) hdg (fun H1 lc hlc hat hz hq => kk H1 _ (hX.setG (xw_F.put hz hq) hat hL9) (xw_Sput hS hz hq hlc (Or.inl xw_in0)) ((xw_F.put hz hq).mono (fun q e => by rw [e]; exact xw_in0)))
theorem pf_M (hx : p.tables.exec = Jvm.exec) (hb : c.code = cc) (hK : xw_K g s) (hX : xw_R g B o σ H) (hS : va_S (xw_A o s.heap.size) s.heap H locs) {i : Nat} (hi : i < 8) {y v : Int32} (hy : vp_in y 8) (hdg : decode cc pc = .ok (.iastore, 1)) (kk : ∀ (H1 : Heap) (locs1 : List Loc), xw_R g B o (xs_smk σ i (xs_ix y) v) H1 → va_S (xw_A o s.heap.size) s.heap H1 locs1 → xw_F (xw_B o) H H1 → W p l e R s m args below meth c H1 locs1 cells slots Q (F0 m (pc + 1) ls rest)) : W p l e R s m args below meth c H locs cells slots Q (F0 m pc ls (.int v :: .int y :: .ref (o + 4 + 4 * i) :: rest)) :=
  xb_iast hx hb hK 3 rfl (hX.2.2.2.2.1 i hi) hy hdg (fun H1 lc hlc hat hz hq => kk H1 _ (hX.setM hi (xw_F.put hz hq) hat) (xw_Sput hS hz hq hlc (Or.inl (xw_inM hi))) ((xw_F.put hz hq).mono (fun q e => by rw [e]; exact xw_inM hi)))
end XP
end
section
/-! New stanzas. -/
abbrev xw_z0 : List Value := [.int 0, .int 0, .int 0, .int 0, .int 0, .int 0]
set_option maxHeartbeats 4000000 in
set_option maxRecDepth 100000 in
theorem c_Z_init (l : Launch) (g : xw_G) (a sz : Nat) (k f r v t u : Int32) : Met l y_Z_init (Cond.code y_Z_init b_Z_init 7 none :: xw_ws) { frames := 1, cells := 0, slots := 0, locals := 20 } (va_Pc [.ref a, .int k, .int f, .int r, .int v, .int t, .int u] (fun U => U.heap.size = sz ∧ va_at g.1 vwCl (a, .inr (xi_Z, xw_z0)) U.heap ∧ xw_K g U)) (xb_V (fun T => T.heap.size = sz ∧ va_at g.1 vwCl (a, .inr (xi_Z, xw_zF (k, f, r, v, t, u))) T.heap) (fun q => q = a)) 0 0 (fun q => q = a) := by
  refine Met.ofW (cc := b_Z_init) (maxL := 7) (ret := none) (by decide) rfl ?_
  intro p e s m args below meth c s₁ B0 hml hv
  obtain ⟨rfl, hsz, hat, hK⟩ := hv
  have hx := B0.exec
  have hb := B0.bytes
  have hr := B0.returns
  have hlk := B0.notSynchronized
  have hts0 := atoms_spec (ws := Cond.code y_Z_init b_Z_init 7 none :: xw_ws) B0.pre
  have hts : ∀ w ∈ xw_ws, w.before _ s = true := fun w h => hts0 w (List.mem_cons_of_mem _ h)
  have hown : s.vm.findClass R_Z = some m.cls := findClass_of_methodNamed B0.named
  have hin : meth.name = "<init>" := (name_of_methodNamed B0.named B0.method).1
  have hS : va_S (fun q => q = a) s.heap s.heap [] := va_S.rf
  have hl := lv_entry ([.ref a, .int k, .int f, .int r, .int v, .int t, .int u]) (n := 7) (Nat.le_of_ble_eq_true rfl)
  rw [lg_entry_eq]
  generalize (lg_sl ([.ref a, .int k, .int f, .int r, .int v, .int t, .int u]) ++ List.replicate (7 - (lg_sl ([.ref a, .int k, .int f, .int r, .int v, .int t, .int u])).length) Slot.unset).toArray = ls at hl ⊢
  have hl : lv_has ls 7 [(0, .ref a), (1, .int k), (2, .int f), (3, .int r), (4, .int v), (5, .int t), (6, .int u)] := hl
  refine lv_aload_n hx hb d_Z_init_0 rfl (lv_at hl 0 rfl) ?_
  refine W.objInit hx hb hown (hts _ ml_Z_1) (hts _ im_obj) (hts _ cd_obj) rfl (by rw [hml]; exact hl.1) rfl d_Z_init_1 (Nat.le_of_ble_eq_true rfl) (Nat.le_of_ble_eq_true rfl) ?_
  refine W.eq (g2 := F0 m 4 ls []) rfl ?_
  refine lv_aload_n hx hb d_Z_init_4 rfl (lv_at hl 0 rfl) ?_
  refine lv_iload_n hx hb d_Z_init_5 rfl (lv_at hl 1 rfl) ?_
  refine xb_putF hx hb hts xw_in_Z t_Z t_Z_ok n_Z hown hK (ci := xi_Z) rfl 0 (by decide) (hts _ lk_Z_7) rfl rfl hin rfl hat rfl rfl (Nat.le_of_ble_eq_true rfl) d_Z_init_6 (fun H lc hlc hat hz hq => ?_)
  have hat : va_at g.1 vwCl (a, .inr (xi_Z, [.int k, .int 0, .int 0, .int 0, .int 0, .int 0])) H := hat
  have hS := xw_Sput hS hz hq hlc rfl
  have hsz := hz.trans hsz
  refine lv_aload_n hx hb d_Z_init_9 rfl (lv_at hl 0 rfl) ?_
  refine lv_iload_n hx hb d_Z_init_10 rfl (lv_at hl 2 rfl) ?_
  refine xb_putF hx hb hts xw_in_Z t_Z t_Z_ok n_Z hown hK (ci := xi_Z) rfl 1 (by decide) (hts _ lk_Z_13) rfl rfl hin rfl hat rfl rfl (Nat.le_of_ble_eq_true rfl) d_Z_init_11 (fun H lc hlc hat hz hq => ?_)
  have hat : va_at g.1 vwCl (a, .inr (xi_Z, [.int k, .int f, .int 0, .int 0, .int 0, .int 0])) H := hat
  have hS := xw_Sput hS hz hq hlc rfl
  have hsz := hz.trans hsz
  refine lv_aload_n hx hb d_Z_init_14 rfl (lv_at hl 0 rfl) ?_
  refine lv_iload_n hx hb d_Z_init_15 rfl (lv_at hl 3 rfl) ?_
  refine xb_putF hx hb hts xw_in_Z t_Z t_Z_ok n_Z hown hK (ci := xi_Z) rfl 2 (by decide) (hts _ lk_Z_16) rfl rfl hin rfl hat rfl rfl (Nat.le_of_ble_eq_true rfl) d_Z_init_16 (fun H lc hlc hat hz hq => ?_)
  have hat : va_at g.1 vwCl (a, .inr (xi_Z, [.int k, .int f, .int r, .int 0, .int 0, .int 0])) H := hat
  have hS := xw_Sput hS hz hq hlc rfl
  have hsz := hz.trans hsz
  refine lv_aload_n hx hb d_Z_init_19 rfl (lv_at hl 0 rfl) ?_
  refine lv_iload hx hb d_Z_init_20 (lv_at hl 4 rfl) ?_
  refine xb_putF hx hb hts xw_in_Z t_Z t_Z_ok n_Z hown hK (ci := xi_Z) rfl 3 (by decide) (hts _ lk_Z_19) rfl rfl hin rfl hat rfl rfl (Nat.le_of_ble_eq_true rfl) d_Z_init_22 (fun H lc hlc hat hz hq => ?_)
  have hat : va_at g.1 vwCl (a, .inr (xi_Z, [.int k, .int f, .int r, .int v, .int 0, .int 0])) H := hat
  have hS := xw_Sput hS hz hq hlc rfl
  have hsz := hz.trans hsz
  refine lv_aload_n hx hb d_Z_init_25 rfl (lv_at hl 0 rfl) ?_
  refine lv_iload hx hb d_Z_init_26 (lv_at hl 5 rfl) ?_
  refine xb_putF hx hb hts xw_in_Z t_Z t_Z_ok n_Z hown hK (ci := xi_Z) rfl 4 (by decide) (hts _ lk_Z_22) rfl rfl hin rfl hat rfl rfl (Nat.le_of_ble_eq_true rfl) d_Z_init_28 (fun H lc hlc hat hz hq => ?_)
  have hat : va_at g.1 vwCl (a, .inr (xi_Z, [.int k, .int f, .int r, .int v, .int t, .int 0])) H := hat
  have hS := xw_Sput hS hz hq hlc rfl
  have hsz := hz.trans hsz
  refine lv_aload_n hx hb d_Z_init_31 rfl (lv_at hl 0 rfl) ?_
  refine lv_iload hx hb d_Z_init_32 (lv_at hl 6 rfl) ?_
  refine xb_putF hx hb hts xw_in_Z t_Z t_Z_ok n_Z hown hK (ci := xi_Z) rfl 5 (by decide) (hts _ lk_Z_25) rfl rfl hin rfl hat rfl rfl (Nat.le_of_ble_eq_true rfl) d_Z_init_34 (fun H lc hlc hat hz hq => ?_)
  have hat : va_at g.1 vwCl (a, .inr (xi_Z, [.int k, .int f, .int r, .int v, .int t, .int u])) H := hat
  have hS := xw_Sput hS hz hq hlc rfl
  have hsz := hz.trans hsz
  exact W.vret hx hb hr (fun T ht hw => ⟨⟨rfl, by rw [ht]; exact hsz, by show va_at _ _ _ T.heap; rw [ht]; exact hat⟩, hS.F ht⟩) hS.2.2 d_Z_init_37 hlk
section XN
variable {p : Program} {l : Launch} {e : Env} {R : Room} {s : State} {m : MethodId} {args : Array Value} {below : List Frame} {meth : Method} {c : Code} {H H0 : Heap} {locs : List Loc} {cells slots : Nat} {Q : State → Prop}
variable {cc : ByteArray} {pc nL : Nat} {ls : Array Slot} {rest st0 : List Value} {g : xw_G} {B : Nat → Prop} {o lim a : Nat} {σ σ0 : xs_S} {ret0 : Option FieldType} {k f r v t u : Int32}
theorem nw_X_Z (hx : p.tables.exec = Jvm.exec) (hb : c.code = cc) (hts : ∀ w ∈ xw_ws, w.before args s = true) (hown : s.vm.findClass R_X = some m.cls) (hK : xw_K g s) (hX : xw_R g B o σ H) (hS : va_S (xw_A o s.heap.size) s.heap H locs) (hc : cells + 1 ≤ R.cells) (hs : slots + 6 ≤ R.slots) (hdg : decode cc pc = .ok (.new 7, 3))
    (kk : ∀ (a : Nat) (H1 : Heap), va_at g.1 vwCl (a, .inr (xi_Z, xw_z0)) H1 → ¬ B a → s.heap.size ≤ a ∧ a = H.size → xw_R g B o σ H1 → va_S (xw_A o s.heap.size) s.heap H1 locs → xw_F (fun _ => False) H H1 → W p l e R s m args below meth c H1 locs (cells + 1) (slots + 6) Q (F0 m (pc + 3) ls (.ref a :: rest))) : W p l e R s m args below meth c H locs cells slots Q (F0 m pc ls rest) :=
  xb_new hx hb hts xw_in_Z t_Z t_Z_ok hown (hts _ cl_X_7) (hts _ is_Z) (hts _ ii_Z) hK (ci := xi_Z) rfl (fs := xw_z0) (fun j hj => by rcases (show j = 0 ∨ j = 1 ∨ j = 2 ∨ j = 3 ∨ j = 4 ∨ j = 5 by omega) with rfl | rfl | rfl | rfl | rfl | rfl <;> rfl) hc hs hdg (fun H1 hat z oq => kk H.size H1 hat (fun q => Nat.lt_irrefl _ (hX.2.2.2.2.2.2.2.2 _ q)) ⟨hS.1, rfl⟩ (hX.grow (xw_F.new z oq)) (xw_Snew hS z oq) (xw_F.new z oq))
theorem in_X_Z (hC : xh_C p s m args meth c R_X cc nL ret0) (hW : xw_W g B o lim σ0 s) (hX0 : xw_R g B o σ H0) (hX : xw_R g B o σ H) (hS : va_S (xw_A o s.heap.size) s.heap H locs) (hF0 : xw_F (fun _ => False) H0 H) (hn : va_at g.1 vwCl (a, .inr (xi_Z, xw_z0)) H) (hb9 : ¬ B a) (hsz : s.heap.size ≤ a ∧ a = H0.size)
    (hRf : 1 + 1 ≤ R.frames) (hRl : 8 + (7 + 11) + 20 ≤ R.locals) (hRc : cells + 0 ≤ R.cells) (hRs : slots + 0 ≤ R.slots) (hls : ls.size = nL) (hst : st0 = ([.int k, .int f, .int r, .int v, .int t, .int u] : List Value).reverse ++ .ref a :: rest) (hrm : (rest.map fun v => v.category).sum ≤ 8) (hdg : decode cc pc = .ok (.invokespecial 11, 3))
    (kk : ∀ (H1 : Heap) (locs1 : List Loc), xw_Z g B a (k, f, r, v, t, u) H1 → xw_R g B o σ H1 → va_S (xw_A o s.heap.size) s.heap H1 locs1 → xw_F (fun _ => False) H0 H1 → W p l e R s m args below meth c H1 locs1 (cells + 0) (slots + 0) Q (F0 m (pc + 3) ls rest)) : W p l e R s m args below meth c H locs cells slots Q (F0 m pc ls st0) := by
  obtain ⟨hx, hb, hml, -, hown, hts, -⟩ := hC
  have hA : ∀ q : Nat, q = a → xw_A o s.heap.size q := fun q e => Or.inr (by rw [e]; exact hsz.1)
  exact xb_callv (va_runI (As := [.int k, .int f, .int r, .int v, .int t, .int u]) (rest := rest) ⟨hx, hb, hml, hown, hts⟩ (c_Z_init l g a H.size k f r v t u) (cwI 6 hts (xw_good cd_Z_init) rfl rfl rfl (hts _ ii_Z) (hts _ ml_X_11) (hts _ im_Z_init) rfl (by decide +kernel) ⟨hRf, hRl⟩) ⟨fun a9 U g9 mk h => ⟨h.1, h.2.1, h.2.2.1, va_K.moved (u := U) (U := U.calling g9 mk a9) (Vm.Alike.refl U.vm) h.2.2.2⟩, fun U hU hw => ⟨rfl, by rw [hU], by rw [hU]; exact hn, va_K.moved hw.alike hW.2.1⟩⟩ rfl rfl hls hst (lv_room hrm) hdg ⟨hRc, hRs⟩) hS hA hA
    (fun T locs1 _ hB hz hk hS1 => by
      have hF : xw_F (fun _ => False) H0 T.heap := ⟨Nat.le_trans hF0.1 hz, fun q hq _ => (hk q (Nat.lt_of_lt_of_le hq hF0.1) (fun e => by rw [e, hsz.2] at hq; exact Nat.lt_irrefl _ hq)).trans (hF0.2 q hq (fun z => z))⟩
      exact kk T.heap locs1 ⟨hB.2, hb9⟩ (hX0.grow hF) hS1 hF)
end XN
end
section
/-! The queues, by hand. -/
theorem xs_rml (n : Nat) : xs_rm n ≤ 10 := by
  unfold xs_rm
  split
  · decide
  · split <;> decide
theorem xs_rmp (n : Nat) : 0 < xs_rm n := by
  unfold xs_rm
  split
  · decide
  · split <;> decide
theorem xm_full_t {σ : xs_S} {n : Nat} (hl : (xs_q σ n).length ≤ xs_rm n) (h : ¬ nI (xs_q σ n).length < nI (xs_rm n)) : xm_full σ n = true := by
  have h10 := xs_rml n
  refine decide_eq_true (Nat.not_lt.mp fun q => h (nI_lt q (by omega)))
theorem xm_full_f {σ : xs_S} {n : Nat} (hl : (xs_q σ n).length ≤ xs_rm n) (h : nI (xs_q σ n).length < nI (xs_rm n)) : xm_full σ n = false := by
  have h10 := xs_rml n
  refine decide_eq_false (fun q => nI_nlt q (by omega) h)
set_option maxHeartbeats 4000000 in
set_option maxRecDepth 100000 in
theorem c_Q_add (l : Launch) (g : xw_G) (B : Nat → Prop) (o lim : Nat) (σ : xs_S) (n : Nat) (hn : n < 15) (a : Nat) (z : xs_Z) : xc_V l y_Q_add (Cond.code y_Q_add b_Q_add 2 none) g B o lim σ (xm_add σ n z) [.ref (o + xs_qo n), .ref a] (fun H => xw_Z g B a z H) 0 0 0 0 := by
  refine xh_V (own := R_Q) (by decide) rfl (Nat.le_of_ble_eq_true rfl) ?_
  intro p e R s m below meth c ls hRf hRl hRc hRs hC hW hz hl
  obtain ⟨hx, hb, hml, hr, hown, hts, hlk⟩ := id hC
  have hX := hW.1
  have hK := hW.2.1
  have hS : va_S (xw_A o s.heap.size) s.heap s.heap [] := va_S.rf
  have hl : lv_has ls 2 [(0, .ref (o + xs_qo n)), (1, .ref a)] := hl
  obtain ⟨f0, hq, hlen, hzl⟩ := hX.2.2.2.2.2.2.1 n hn
  have h10 := xs_rml n
  obtain ⟨L, hL⟩ : ∃ L, (xs_q σ n).length = L := ⟨_, rfl⟩
  rw [hL] at hq hlen
  refine lv_aload_n hx hb d_Q_add_0 rfl (lv_at hl 0 rfl) ?_
  refine gf_Q_Q_size hx hb hts hown hK hq.1 rfl d_Q_add_1 ?_
  refine lv_aload_n hx hb d_Q_add_4 rfl (lv_at hl 0 rfl) ?_
  refine gf_Q_Q_places hx hb hts hown hK hq.1 rfl d_Q_add_5 ?_
  refine xb_alen hx hb hK 2 rfl hq.2 d_Q_add_8 ?_
  refine lv_icmp_ge (tgt := 35) hx hb d_Q_add_9 (by decide) (fun c_1 => ?_) (fun c_1 => ?_)
  · have hfull : ¬ L < xs_rm n := fun q => nI_ge q (by omega) c_1
    refine lv_aload_n hx hb d_Q_add_35 rfl (lv_at hl 0 rfl) ?_
    refine lv_dup hx hb d_Q_add_36 rfl ?_
    refine gf_Q_Q_lost hx hb hts hown hK hq.1 rfl d_Q_add_37 ?_
    refine lv_iconst (v := 1) hx hb d_Q_add_40 (by decide) ?_
    refine lv_iadd hx hb d_Q_add_41 ?_
    refine xb_put hx hb hts xw_in_Q t_Q t_Q_ok n_Q hown hK (ci := xi_Q) rfl 2 (by decide) (hts _ lk_Q_19) rfl rfl hq.1 rfl rfl (Nat.le_of_ble_eq_true rfl) d_Q_add_42 (fun H1 lc hlc hat hz1 hq1 => ?_)
    have hF : xw_F (fun q => q = o + xs_qo n ∨ q = o + xs_qo n + 1) s.heap H1 := (xw_F.put hz1 hq1).mono (fun q e => Or.inl e)
    have hX1 := hX.setQ hn (l := xs_q σ n) (w := xs_lo σ n + 1) (f := f0) hF ⟨by rw [hL]; exact hat, xw_at hq.2 (xw_F.put hz1 hq1) (by (try dsimp only); omega)⟩ (by rw [hL]; exact hlen) hzl
    have hS1 := xw_Sput hS hz1 hq1 hlc (Or.inl (xw_inQ hn))
    exact xr_V hC hW hX1 hS1 (by omega) (by omega) (by simp only [xm_add, hL, hfull, if_false]) d_Q_add_45
  · have hlt : L < xs_rm n := Nat.not_le.mp (fun q => c_1 (nI_le q (by omega)))
    refine lv_aload_n hx hb d_Q_add_12 rfl (lv_at hl 0 rfl) ?_
    refine gf_Q_Q_places hx hb hts hown hK hq.1 rfl d_Q_add_13 ?_
    refine lv_aload_n hx hb d_Q_add_16 rfl (lv_at hl 0 rfl) ?_
    refine gf_Q_Q_size hx hb hts hown hK hq.1 rfl d_Q_add_17 ?_
    refine lv_aload_n hx hb d_Q_add_20 rfl (lv_at hl 1 rfl) ?_
    refine xb_aast hx hb hK 2 xi_Z (r := (R_Z, F_Z, 6)) rfl rfl hq.2 hz.1 (vp_in_nI hlt (by omega)) d_Q_add_21 (fun H1 lc hlc hat1 hz1 hq1 => ?_)
    rw [nI_clamp (show L < 2 ^ 31 by omega)] at hat1
    have hS1 := xw_Sput hS hz1 hq1 hlc (Or.inl (xw_inP hn))
    have hqa : va_at g.1 vwCl (o + xs_qo n, .inr (xi_Q, xw_qF o n L (xs_lo σ n))) H1 := xw_at hq.1 (xw_F.put hz1 hq1) (by (try dsimp only); omega)
    have hF1 : xw_F (fun q => q = o + xs_qo n ∨ q = o + xs_qo n + 1) s.heap H1 := (xw_F.put hz1 hq1).mono (fun q e => Or.inr e)
    refine lv_aload_n hx hb d_Q_add_22 rfl (lv_at hl 0 rfl) ?_
    refine lv_dup hx hb d_Q_add_23 rfl ?_
    refine gf_Q_Q_size hx hb hts hown hK hqa rfl d_Q_add_24 ?_
    refine lv_iconst (v := 1) hx hb d_Q_add_27 (by decide) ?_
    refine lv_iadd hx hb d_Q_add_28 ?_
    refine xb_put hx hb hts xw_in_Q t_Q t_Q_ok n_Q hown hK (ci := xi_Q) rfl 1 (by decide) (hts _ lk_Q_15) rfl rfl hqa rfl rfl (Nat.le_of_ble_eq_true rfl) d_Q_add_29 (fun H2 lc2 hlc2 hat2 hz2 hq2 => ?_)
    rw [nI_1] at hat2
    have hS2 := xw_Sput hS1 hz2 hq2 hlc2 (Or.inl (xw_inQ hn))
    have hF2 : xw_F (fun q => q = o + xs_qo n ∨ q = o + xs_qo n + 1) s.heap H2 := hF1.tr ((xw_F.put hz2 hq2).mono (fun q e => Or.inl e))
    have hln : (xs_q σ n ++ [z]).length = L + 1 := by rw [List.length_append, hL]; rfl
    have hX2 := hX.setQ hn (l := xs_q σ n ++ [z]) (w := xs_lo σ n) (f := va_up f0 L (some a)) hF2 ⟨by rw [hln]; exact hat2, xw_at hat1 (xw_F.put hz2 hq2) (by (try dsimp only); omega)⟩ (by rw [hln]; exact hlt) (fun j z' hj => by
      by_cases e : j < L
      · rw [List.getElem?_append_left (by rw [hL]; exact e)] at hj
        rw [va_up_ne _ _ (Nat.ne_of_lt e)]
        exact hzl j z' hj
      · rw [List.getElem?_append_right (by rw [hL]; omega), hL] at hj
        have e2 : j - L = 0 := by
          have := (List.getElem?_eq_some_iff.mp hj).1
          simp only [List.length_singleton] at this
          omega
        have e3 : j = L := by omega
        subst e3
        rw [e2] at hj
        cases hj
        rw [va_up_self]
        exact ⟨a, rfl, hz⟩)
    refine lv_goto (tgt := 45) hx hb d_Q_add_32 (by decide) ?_
    exact xr_V hC hW hX2 hS2 (by omega) (by omega) (by simp only [xm_add, hL, hlt, if_true]) d_Q_add_45
set_option maxHeartbeats 4000000 in
set_option maxRecDepth 100000 in
theorem c_Q_clear (l : Launch) (g : xw_G) (B : Nat → Prop) (o lim : Nat) (σ : xs_S) (n : Nat) (hn : n < 15) : xc_V l y_Q_clear (Cond.code y_Q_clear b_Q_clear 1 none) g B o lim σ (xm_clear σ n) [.ref (o + xs_qo n)] (fun _ => True) 0 0 0 0 := by
  refine xh_V (own := R_Q) (by decide) rfl (Nat.le_of_ble_eq_true rfl) ?_
  intro p e R s m below meth c ls hRf hRl hRc hRs hC hW hE hl
  obtain ⟨hx, hb, hml, hr, hown, hts, hlk⟩ := id hC
  have hX := hW.1
  have hK := hW.2.1
  have hS : va_S (xw_A o s.heap.size) s.heap s.heap [] := va_S.rf
  have hl : lv_has ls 1 [(0, .ref (o + xs_qo n))] := hl
  obtain ⟨f0, hq, hlen, hzl⟩ := hX.2.2.2.2.2.2.1 n hn
  refine lv_aload_n hx hb d_Q_clear_0 rfl (lv_at hl 0 rfl) ?_
  refine lv_iconst (v := 0) hx hb d_Q_clear_1 (by decide) ?_
  refine xb_put hx hb hts xw_in_Q t_Q t_Q_ok n_Q hown hK (ci := xi_Q) rfl 1 (by decide) (hts _ lk_Q_15) rfl rfl hq.1 rfl rfl (Nat.le_of_ble_eq_true rfl) d_Q_clear_2 (fun H1 lc hlc hat hz1 hq1 => ?_)
  have hF : xw_F (fun q => q = o + xs_qo n ∨ q = o + xs_qo n + 1) s.heap H1 := (xw_F.put hz1 hq1).mono (fun q e => Or.inl e)
  have hX1 := hX.setQ hn (l := []) (w := xs_lo σ n) (f := f0) hF ⟨hat, xw_at hq.2 (xw_F.put hz1 hq1) (by (try dsimp only); omega)⟩ (Nat.zero_le _) (fun j z' hj => by simp at hj)
  exact xr_V hC hW hX1 (xw_Sput hS hz1 hq1 hlc (Or.inl (xw_inQ hn))) (by omega) (by omega) rfl d_Q_clear_5
set_option maxHeartbeats 4000000 in
set_option maxRecDepth 100000 in
theorem c_Q_removeFirst (l : Launch) (g : xw_G) (B : Nat → Prop) (o lim : Nat) (σ : xs_S) (n : Nat) (hn : n < 15) (hne : ∃ z t, xs_q σ n = z :: t) : xc_Q l y_Q_removeFirst (Cond.code y_Q_removeFirst b_Q_removeFirst 3 (some (.object "XmppPair$Stanza"))) g B o lim σ (xm_pop σ n) [.ref (o + xs_qo n)] (fun _ => True) (fun v H => ∃ a, v = .ref a ∧ xw_Z g B a ((xs_q σ n).headD xs_z0) H) 0 0 0 0 := by
  refine xh_Q (own := R_Q) (by decide) rfl (Nat.le_of_ble_eq_true rfl) ?_
  intro p e R s m below meth c ls hRf hRl hRc hRs hC hW hE hl
  obtain ⟨hx, hb, hml, hr, hown, hts, hlk⟩ := id hC
  have hX := hW.1
  have hK := hW.2.1
  have hS : va_S (xw_A o s.heap.size) s.heap s.heap [] := va_S.rf
  have hl : lv_has ls 3 [(0, .ref (o + xs_qo n))] := hl
  obtain ⟨f0, hq, hlen, hzl⟩ := hX.2.2.2.2.2.2.1 n hn
  obtain ⟨z, t, hzt⟩ := hne
  have h10 := xs_rml n
  have hrp := xs_rmp n
  obtain ⟨L, hL⟩ : ∃ L, t.length = L := ⟨_, rfl⟩
  have hL1 : (xs_q σ n).length = L + 1 := by rw [hzt, List.length_cons, hL]
  rw [hL1] at hq hlen
  obtain ⟨a0, hf0, hz0⟩ := hzl 0 z (by rw [hzt]; rfl)
  refine lv_aload_n hx hb d_Q_removeFirst_0 rfl (lv_at hl 0 rfl) ?_
  refine gf_Q_Q_places hx hb hts hown hK hq.1 rfl d_Q_removeFirst_1 ?_
  refine lv_iconst (v := 0) hx hb d_Q_removeFirst_4 (by decide) ?_
  refine xb_aald (v := a0) hx hb hK 2 rfl hq.2 (vp_in_nI (n := 0) hrp (by omega)) hf0 d_Q_removeFirst_5 ?_
  refine lv_astore_n (lv' := [(1, .ref a0), (0, .ref (o + xs_qo n))]) hx hb d_Q_removeFirst_6 rfl hl (by decide) rfl (fun ls hl => ?_)
  refine lv_iconst (v := 1) hx hb d_Q_removeFirst_7 (by decide) ?_
  refine lv_istore_n (lv' := [(2, .int 1), (1, .ref a0), (0, .ref (o + xs_qo n))]) hx hb d_Q_removeFirst_8 rfl hl (by decide) rfl (fun ls hl => ?_)
  have loop : ∀ (k i : Nat) (H : Heap) (locs : List Loc) (ls : Array Slot), i + k = L + 1 → 1 ≤ i → xw_F (fun q => q = o + xs_qo n ∨ q = o + xs_qo n + 1) s.heap H → xw_QF g o n (fun j => if j + 1 < i then f0 (j + 1) else f0 j) (L + 1) (xs_lo σ n) H → va_S (xw_A o s.heap.size) s.heap H locs → lv_has ls 3 [(2, .int (nI i)), (1, .ref a0), (0, .ref (o + xs_qo n))] →
      W p l e R s m ([.ref (o + xs_qo n)] : List Value).toArray below meth c H locs 0 0 (MQ below (xb_Q (fun v t => (∃ a, v = .ref a ∧ xw_Z g B a ((xs_q σ n).headD xs_z0) t.heap) ∧ xw_W g B o lim (xm_pop σ n) t) (xw_A o s.heap.size)) ([.ref (o + xs_qo n)] : List Value).toArray s 0 0 (xw_A o s.heap.size)) (F0 m 9 ls []) := by
    intro k
    induction k with
    | zero =>
      intro i H locs ls hi h1 hF hq hS hl
      obtain rfl : i = L + 1 := by omega
      refine lv_iload_n hx hb d_Q_removeFirst_9 rfl (lv_at hl 0 rfl) ?_
      refine lv_aload_n hx hb d_Q_removeFirst_10 rfl (lv_at hl 2 rfl) ?_
      refine gf_Q_Q_size hx hb hts hown hK hq.1 rfl d_Q_removeFirst_11 ?_
      refine lv_icmp_ge (tgt := 37) hx hb d_Q_removeFirst_14 (by decide) (fun c_1 => ?_) (fun c_1 => absurd (nI_le (Nat.le_refl _) (by omega)) c_1)
      refine lv_aload_n hx hb d_Q_removeFirst_37 rfl (lv_at hl 2 rfl) ?_
      refine gf_Q_Q_size hx hb hts hown hK hq.1 rfl d_Q_removeFirst_38 ?_
      refine lv_if_le (tgt := 54) hx hb d_Q_removeFirst_41 (by decide) (fun c_2 => absurd c_2 (nI_nle (by omega) (by omega))) (fun c_2 => ?_)
      refine lv_aload_n hx hb d_Q_removeFirst_44 rfl (lv_at hl 2 rfl) ?_
      refine lv_dup hx hb d_Q_removeFirst_45 rfl ?_
      refine gf_Q_Q_size hx hb hts hown hK hq.1 rfl d_Q_removeFirst_46 ?_
      refine lv_iconst (v := 1) hx hb d_Q_removeFirst_49 (by decide) ?_
      refine lv_isub hx hb d_Q_removeFirst_50 ?_
      refine xb_put hx hb hts xw_in_Q t_Q t_Q_ok n_Q hown hK (ci := xi_Q) rfl 1 (by decide) (hts _ lk_Q_15) rfl rfl hq.1 rfl rfl (Nat.le_of_ble_eq_true rfl) d_Q_removeFirst_51 (fun H2 lc2 hlc2 hat2 hz2 hq2 => ?_)
      rw [nI_pred] at hat2
      have hS2 := xw_Sput hS hz2 hq2 hlc2 (Or.inl (xw_inQ hn))
      have hF2 : xw_F (fun q => q = o + xs_qo n ∨ q = o + xs_qo n + 1) s.heap H2 := hF.tr ((xw_F.put hz2 hq2).mono (fun q e => Or.inl e))
      have hX2 := hX.setQ hn (l := t) (w := xs_lo σ n) hF2 ⟨by rw [hL]; exact hat2, xw_at hq.2 (xw_F.put hz2 hq2) (by (try dsimp only); omega)⟩ (by omega) (fun j z' hj => by
        have hjl : j < L := by rw [← hL]; exact (List.getElem?_eq_some_iff.mp hj).1
        obtain ⟨a', h1, h2⟩ := hzl (j + 1) z' (by rw [hzt]; exact hj)
        exact ⟨a', by rw [if_pos (by omega)]; exact h1, h2⟩)
      refine lv_aload_n hx hb d_Q_removeFirst_54 rfl (lv_at hl 1 rfl) ?_
      have hzf : xw_Z g B a0 ((xs_q σ n).headD xs_z0) H2 := by
        rw [hzt]
        exact hz0.F (fun q e => hX.2.2.2.2.2.2.2.1 q (Or.elim e (fun e => by rw [e]; exact xw_inQ hn) (fun e => by rw [e]; exact xw_inP hn))) hF2
      exact xr_R (τ := xm_pop σ n) (val := fun v H => ∃ a, v = .ref a ∧ xw_Z g B a ((xs_q σ n).headD xs_z0) H) hC hW hX2 hS2 (by omega) (by omega) (by unfold xm_pop; rw [hzt]; rfl) (Or.inr ⟨_, rfl⟩) ⟨_, rfl, hzf⟩ d_Q_removeFirst_55
    | succ k ih =>
      intro i H locs ls hi h1 hF hq hS hl
      refine lv_iload_n hx hb d_Q_removeFirst_9 rfl (lv_at hl 0 rfl) ?_
      refine lv_aload_n hx hb d_Q_removeFirst_10 rfl (lv_at hl 2 rfl) ?_
      refine gf_Q_Q_size hx hb hts hown hK hq.1 rfl d_Q_removeFirst_11 ?_
      refine lv_icmp_ge (tgt := 37) hx hb d_Q_removeFirst_14 (by decide) (fun c_1 => absurd c_1 (nI_ge (by omega) (by omega))) (fun c_1 => ?_)
      have hil : i < (xs_q σ n).length := by omega
      obtain ⟨ai, hfi, hzi⟩ := hzl i _ (List.getElem?_eq_getElem hil)
      have hzi := hzi.F (fun q e => hX.2.2.2.2.2.2.2.1 q (Or.elim e (fun e => by rw [e]; exact xw_inQ hn) (fun e => by rw [e]; exact xw_inP hn))) hF
      refine lv_aload_n hx hb d_Q_removeFirst_17 rfl (lv_at hl 2 rfl) ?_
      refine gf_Q_Q_places hx hb hts hown hK hq.1 rfl d_Q_removeFirst_18 ?_
      refine lv_iload_n hx hb d_Q_removeFirst_21 rfl (lv_at hl 0 rfl) ?_
      refine lv_iconst (v := 1) hx hb d_Q_removeFirst_22 (by decide) ?_
      refine lv_isub hx hb d_Q_removeFirst_23 ?_
      refine lv_topi (fun x9 ex9 => ?_)
      have ex9 : x9 = nI (i - 1) := by rw [ex9, ← nI_pred (i - 1), Nat.sub_add_cancel h1]
      subst ex9
      refine lv_aload_n hx hb d_Q_removeFirst_24 rfl (lv_at hl 2 rfl) ?_
      refine gf_Q_Q_places hx hb hts hown hK hq.1 rfl d_Q_removeFirst_25 ?_
      refine lv_iload_n hx hb d_Q_removeFirst_28 rfl (lv_at hl 0 rfl) ?_
      refine xb_aald (v := ai) hx hb hK 2 rfl hq.2 (vp_in_nI (by omega) (by omega)) (by rw [nI_clamp (by omega), if_neg (by omega)]; exact hfi) d_Q_removeFirst_29 ?_
      refine xb_aast hx hb hK 2 xi_Z (r := (R_Z, F_Z, 6)) rfl rfl hq.2 hzi.1 (vp_in_nI (by omega) (by omega)) d_Q_removeFirst_30 (fun H1 lc hlc hat1 hz1 hq1 => ?_)
      rw [nI_clamp (show i - 1 < 2 ^ 31 by omega)] at hat1
      have hS1 := xw_Sput hS hz1 hq1 hlc (Or.inl (xw_inP hn))
      have hF1 : xw_F (fun q => q = o + xs_qo n ∨ q = o + xs_qo n + 1) s.heap H1 := hF.tr ((xw_F.put hz1 hq1).mono (fun q e => Or.inr e))
      have hqa : va_at g.1 vwCl (o + xs_qo n, .inr (xi_Q, xw_qF o n (L + 1) (xs_lo σ n))) H1 := xw_at hq.1 (xw_F.put hz1 hq1) (by (try dsimp only); omega)
      have hfe : va_up (fun j => if j + 1 < i then f0 (j + 1) else f0 j) (i - 1) (some ai) = (fun j => if j + 1 < i + 1 then f0 (j + 1) else f0 j) := by
        funext j
        by_cases e : j = i - 1
        · subst e
          rw [va_up_self, if_pos (by omega), Nat.sub_add_cancel h1, hfi]
        · rw [va_up_ne _ _ e]
          by_cases e2 : j + 1 < i
          · rw [if_pos e2, if_pos (by omega)]
          · rw [if_neg e2, if_neg (by omega)]
      rw [hfe] at hat1
      refine lv_iinc (v := nI (i + 1)) (lv' := [(2, .int (nI (i + 1))), (1, .ref a0), (0, .ref (o + xs_qo n))]) hx hb d_Q_removeFirst_31 hl (k := 0) rfl (nI_1 _) (by decide) rfl (fun ls hl => ?_)
      refine lv_goto (tgt := 9) hx hb d_Q_removeFirst_34 (by decide) ?_
      exact ih (i + 1) _ _ ls (by omega) (by omega) hF1 ⟨hqa, hat1⟩ hS1 hl
  exact loop L 1 _ _ ls (by omega) (Nat.le_refl 1) xw_F.rf ⟨hq.1, by
    have : (fun j => if j + 1 < 1 then f0 (j + 1) else f0 j) = f0 := by
      funext j
      rw [if_neg (by omega)]
    rw [this]
    exact hq.2⟩ hS hl
end
section
/-! The methods, by program. -/
set_option maxHeartbeats 4000000 in
set_option maxRecDepth 100000 in
theorem c_Q_isFull (l : Launch) (g : xw_G) (B : Nat → Prop) (o lim : Nat) (σ : xs_S) (n : Nat) (hn : n < 15) : xc_Q l y_Q_isFull (Cond.code y_Q_isFull b_Q_isFull 1 (some .boolean)) g B o lim σ σ [.ref (o + xs_qo n)] (fun _ => True) (fun v _ => v = .int (xs_b (xm_full σ n))) 0 0 0 0 := by
  refine xh_Q (own := R_Q) (by decide) rfl (Nat.le_of_ble_eq_true rfl) ?_
  intro p e R s m below meth c ls hRf hRl hRc hRs hC hW hE hl
  obtain ⟨hx, hb, hml, hr, hown, hts, hlk⟩ := id hC
  have hX := hW.1
  have hK := hW.2.1
  have hS : va_S (xw_A o s.heap.size) s.heap s.heap [] := va_S.rf
  have hl : lv_has ls 1 [(0, .ref (o + xs_qo n))] := hl
  refine lv_aload_n hx hb d_Q_isFull_0 rfl (lv_at hl 0 rfl) ?_
  obtain ⟨f9, hq9, hl9, hz9⟩ := hX.2.2.2.2.2.2.1 n hn
  refine gf_Q_Q_size hx hb hts hown hK hq9.1 rfl d_Q_isFull_1 ?_
  refine lv_aload_n hx hb d_Q_isFull_4 rfl (lv_at hl 0 rfl) ?_
  obtain ⟨f9, hq9, hl9, hz9⟩ := hX.2.2.2.2.2.2.1 n hn
  refine gf_Q_Q_places hx hb hts hown hK hq9.1 rfl d_Q_isFull_5 ?_
  obtain ⟨f9, hq9, hl9, hz9⟩ := hX.2.2.2.2.2.2.1 n hn
  refine xb_alen hx hb hK 2 rfl hq9.2 d_Q_isFull_8 ?_
  refine lv_icmp_lt (tgt := 16) hx hb d_Q_isFull_9 (by decide) (fun c_1 => ?_) (fun c_1 => ?_)
  · refine lv_iconst (v := 0) hx hb d_Q_isFull_16 (by decide) ?_
    exact xr_Z (τ := σ) (val := (fun v _ => v = .int (xs_b (xm_full σ n)))) hC hW hX hS (by omega) (by omega) rfl rfl (by rw [xm_full_f hl9 c_1]; rfl) d_Q_isFull_17
  · refine lv_iconst (v := 1) hx hb d_Q_isFull_12 (by decide) ?_
    refine lv_goto (tgt := 17) hx hb d_Q_isFull_13 (by decide) ?_
    exact xr_Z (τ := σ) (val := (fun v _ => v = .int (xs_b (xm_full σ n)))) hC hW hX hS (by omega) (by omega) rfl rfl (by rw [xm_full_t hl9 c_1]; rfl) d_Q_isFull_17
set_option maxHeartbeats 4000000 in
set_option maxRecDepth 100000 in
theorem c_A_dropMarks (l : Launch) (g : xw_G) (B : Nat → Prop) (o lim : Nat) (σ : xs_S) (i : Nat) (hi : i < 8) (y : Int32) (j : Nat) (hvy : vp_in y 8) (hj : xs_ix y = j) (x : Int32) : xc_V l y_A_dropMarks (Cond.code y_A_dropMarks b_A_dropMarks 3 none) g B o lim σ (xm_drop σ i j x) [.ref (o + 3 + 4 * i), .int y, .int x] (fun _ => True) 0 0 0 0 := by
  refine xh_V (own := R_A) (by decide) rfl (Nat.le_of_ble_eq_true rfl) ?_
  intro p e R s m below meth c ls hRf hRl hRc hRs hC hW hE hl
  obtain ⟨hx, hb, hml, hr, hown, hts, hlk⟩ := id hC
  have hX := hW.1
  have hK := hW.2.1
  have hS : va_S (xw_A o s.heap.size) s.heap s.heap [] := va_S.rf
  have hl : lv_has ls 3 [(0, .ref (o + 3 + 4 * i)), (1, .int y), (2, .int x)] := hl
  subst hj
  refine lv_aload_n hx hb d_A_dropMarks_0 rfl (lv_at hl 0 rfl) ?_
  refine gf_A_A_marks hx hb hts hown hK (hX.2.2.2.1 i hi) rfl d_A_dropMarks_1 ?_
  refine lv_iload_n hx hb d_A_dropMarks_4 rfl (lv_at hl 1 rfl) ?_
  refine lv_dup2_11 hx hb d_A_dropMarks_5 rfl rfl ?_
  refine xb_iald hx hb hK 3 rfl (hX.2.2.2.2.1 i hi) hvy d_A_dropMarks_6 ?_
  refine lv_iload_n hx hb d_A_dropMarks_7 rfl (lv_at hl 2 rfl) ?_
  refine lv_iconst (v := (-1)) hx hb d_A_dropMarks_8 (by decide) ?_
  refine lv_ixor hx hb d_A_dropMarks_9 ?_
  refine lv_iand hx hb d_A_dropMarks_10 ?_
  refine pf_M hx hb hK hX hS hi hvy d_A_dropMarks_11 (fun H locs hX hS hF => ?_)
  exact xr_V (τ := xm_drop σ i (xs_ix y) x) hC hW hX hS (by omega) (by omega) rfl d_A_dropMarks_12
set_option maxHeartbeats 4000000 in
set_option maxRecDepth 100000 in
theorem c_A_addMark (l : Launch) (g : xw_G) (B : Nat → Prop) (o lim : Nat) (σ : xs_S) (i : Nat) (hi : i < 8) (y : Int32) (j : Nat) (hvy : vp_in y 8) (hj : xs_ix y = j) (x : Int32) : xc_V l y_A_addMark (Cond.code y_A_addMark b_A_addMark 3 none) g B o lim σ (xm_mark σ i j x) [.ref (o + 3 + 4 * i), .int y, .int x] (fun _ => True) 0 0 0 0 := by
  refine xh_V (own := R_A) (by decide) rfl (Nat.le_of_ble_eq_true rfl) ?_
  intro p e R s m below meth c ls hRf hRl hRc hRs hC hW hE hl
  obtain ⟨hx, hb, hml, hr, hown, hts, hlk⟩ := id hC
  have hX := hW.1
  have hK := hW.2.1
  have hS : va_S (xw_A o s.heap.size) s.heap s.heap [] := va_S.rf
  have hl : lv_has ls 3 [(0, .ref (o + 3 + 4 * i)), (1, .int y), (2, .int x)] := hl
  subst hj
  refine lv_aload_n hx hb d_A_addMark_0 rfl (lv_at hl 0 rfl) ?_
  refine gf_A_A_marks hx hb hts hown hK (hX.2.2.2.1 i hi) rfl d_A_addMark_1 ?_
  refine lv_iload_n hx hb d_A_addMark_4 rfl (lv_at hl 1 rfl) ?_
  refine lv_dup2_11 hx hb d_A_addMark_5 rfl rfl ?_
  refine xb_iald hx hb hK 3 rfl (hX.2.2.2.2.1 i hi) hvy d_A_addMark_6 ?_
  refine lv_iload_n hx hb d_A_addMark_7 rfl (lv_at hl 2 rfl) ?_
  refine lv_ior hx hb d_A_addMark_8 ?_
  refine pf_M hx hb hK hX hS hi hvy d_A_addMark_9 (fun H locs hX hS hF => ?_)
  exact xr_V (τ := xm_mark σ i (xs_ix y) x) hC hW hX hS (by omega) (by omega) rfl d_A_addMark_10
set_option maxHeartbeats 4000000 in
set_option maxRecDepth 100000 in
theorem c_A_hasAny (l : Launch) (g : xw_G) (B : Nat → Prop) (o lim : Nat) (σ : xs_S) (i : Nat) (hi : i < 8) (y : Int32) (j : Nat) (hvy : vp_in y 8) (hj : xs_ix y = j) (x : Int32) : xc_Q l y_A_hasAny (Cond.code y_A_hasAny b_A_hasAny 3 (some .boolean)) g B o lim σ σ [.ref (o + 3 + 4 * i), .int y, .int x] (fun _ => True) (fun v _ => v = .int (xs_b (xm_has σ i j x))) 0 0 0 0 := by
  refine xh_Q (own := R_A) (by decide) rfl (Nat.le_of_ble_eq_true rfl) ?_
  intro p e R s m below meth c ls hRf hRl hRc hRs hC hW hE hl
  obtain ⟨hx, hb, hml, hr, hown, hts, hlk⟩ := id hC
  have hX := hW.1
  have hK := hW.2.1
  have hS : va_S (xw_A o s.heap.size) s.heap s.heap [] := va_S.rf
  have hl : lv_has ls 3 [(0, .ref (o + 3 + 4 * i)), (1, .int y), (2, .int x)] := hl
  subst hj
  refine lv_aload_n hx hb d_A_hasAny_0 rfl (lv_at hl 0 rfl) ?_
  refine gf_A_A_marks hx hb hts hown hK (hX.2.2.2.1 i hi) rfl d_A_hasAny_1 ?_
  refine lv_iload_n hx hb d_A_hasAny_4 rfl (lv_at hl 1 rfl) ?_
  refine xb_iald hx hb hK 3 rfl (hX.2.2.2.2.1 i hi) hvy d_A_hasAny_5 ?_
  refine lv_iload_n hx hb d_A_hasAny_6 rfl (lv_at hl 2 rfl) ?_
  refine lv_iand hx hb d_A_hasAny_7 ?_
  refine lv_if_eq (tgt := 15) hx hb d_A_hasAny_8 (by decide) (fun c_1 => ?_) (fun c_1 => ?_)
  · refine lv_iconst (v := 0) hx hb d_A_hasAny_15 (by decide) ?_
    exact xr_Z (τ := σ) (val := (fun v _ => v = .int (xs_b (xm_has σ i (xs_ix y) x)))) hC hW hX hS (by omega) (by omega) rfl rfl (by simp only [xm_has, xs_b, xs_ix, c_1, decide_true, decide_false, if_true, if_false, reduceIte, Bool.false_eq_true, Bool.true_eq_false, and_true, true_and, and_false, false_and, or_true, true_or, or_false, false_or, not_true_eq_false, not_false_eq_true] <;> rfl) d_A_hasAny_16
  · refine lv_iconst (v := 1) hx hb d_A_hasAny_11 (by decide) ?_
    refine lv_goto (tgt := 16) hx hb d_A_hasAny_12 (by decide) ?_
    exact xr_Z (τ := σ) (val := (fun v _ => v = .int (xs_b (xm_has σ i (xs_ix y) x)))) hC hW hX hS (by omega) (by omega) rfl rfl (by simp only [xm_has, xs_b, xs_ix, c_1, decide_true, decide_false, if_true, if_false, reduceIte, Bool.false_eq_true, Bool.true_eq_false, and_true, true_and, and_false, false_and, or_true, true_or, or_false, false_or, not_true_eq_false, not_false_eq_true] <;> rfl) d_A_hasAny_16
set_option maxHeartbeats 4000000 in
set_option maxRecDepth 100000 in
theorem c_X_isAccount (l : Launch) (g : xw_G) (B : Nat → Prop) (o lim : Nat) (σ : xs_S) (x : Int32) : xc_Q l y_X_isAccount (Cond.code y_X_isAccount b_X_isAccount 1 (some .boolean)) g B o lim σ σ [.int x] (fun _ => True) (fun v _ => v = .int (xs_b (xm_in8 x))) 0 0 0 0 := by
  refine xh_Q (own := R_X) (by decide) rfl (Nat.le_of_ble_eq_true rfl) ?_
  intro p e R s m below meth c ls hRf hRl hRc hRs hC hW hE hl
  obtain ⟨hx, hb, hml, hr, hown, hts, hlk⟩ := id hC
  have hX := hW.1
  have hK := hW.2.1
  have hS : va_S (xw_A o s.heap.size) s.heap s.heap [] := va_S.rf
  have hl : lv_has ls 1 [(0, .int x)] := hl
  refine lv_iload_n hx hb d_X_isAccount_0 rfl (lv_at hl 0 rfl) ?_
  refine lv_if_lt (tgt := 14) hx hb d_X_isAccount_1 (by decide) (fun c_1 => ?_) (fun c_1 => ?_)
  · refine lv_iconst (v := 0) hx hb d_X_isAccount_14 (by decide) ?_
    exact xr_Z (τ := σ) (val := (fun v _ => v = .int (xs_b (xm_in8 x)))) hC hW hX hS (by omega) (by omega) rfl rfl (by simp only [xm_in8, xs_b, c_1, decide_true, decide_false, if_true, if_false, reduceIte, Bool.false_eq_true, Bool.true_eq_false, and_true, true_and, and_false, false_and, or_true, true_or, or_false, false_or, not_true_eq_false, not_false_eq_true] <;> rfl) d_X_isAccount_15
  · refine lv_iload_n hx hb d_X_isAccount_4 rfl (lv_at hl 0 rfl) ?_
    refine lv_bipush (v := 8) hx hb d_X_isAccount_5 (by decide) ?_
    refine lv_icmp_ge (tgt := 14) hx hb d_X_isAccount_7 (by decide) (fun c_2 => ?_) (fun c_2 => ?_)
    · refine lv_iconst (v := 0) hx hb d_X_isAccount_14 (by decide) ?_
      exact xr_Z (τ := σ) (val := (fun v _ => v = .int (xs_b (xm_in8 x)))) hC hW hX hS (by omega) (by omega) rfl rfl (by simp only [xm_in8, xs_b, c_1, c_2, decide_true, decide_false, if_true, if_false, reduceIte, Bool.false_eq_true, Bool.true_eq_false, and_true, true_and, and_false, false_and, or_true, true_or, or_false, false_or, not_true_eq_false, not_false_eq_true] <;> rfl) d_X_isAccount_15
    · refine lv_iconst (v := 1) hx hb d_X_isAccount_10 (by decide) ?_
      refine lv_goto (tgt := 15) hx hb d_X_isAccount_11 (by decide) ?_
      exact xr_Z (τ := σ) (val := (fun v _ => v = .int (xs_b (xm_in8 x)))) hC hW hX hS (by omega) (by omega) rfl rfl (by simp only [xm_in8, xs_b, c_1, c_2, decide_true, decide_false, if_true, if_false, reduceIte, Bool.false_eq_true, Bool.true_eq_false, and_true, true_and, and_false, false_and, or_true, true_or, or_false, false_or, not_true_eq_false, not_false_eq_true] <;> rfl) d_X_isAccount_15
set_option maxHeartbeats 4000000 in
set_option maxRecDepth 100000 in
theorem c_X_isConnection (l : Launch) (g : xw_G) (B : Nat → Prop) (o lim : Nat) (σ : xs_S) (x : Int32) : xc_Q l y_X_isConnection (Cond.code y_X_isConnection b_X_isConnection 1 (some .boolean)) g B o lim σ σ [.int x] (fun _ => True) (fun v _ => v = .int (xs_b (xm_in6 x))) 0 0 0 0 := by
  refine xh_Q (own := R_X) (by decide) rfl (Nat.le_of_ble_eq_true rfl) ?_
  intro p e R s m below meth c ls hRf hRl hRc hRs hC hW hE hl
  obtain ⟨hx, hb, hml, hr, hown, hts, hlk⟩ := id hC
  have hX := hW.1
  have hK := hW.2.1
  have hS : va_S (xw_A o s.heap.size) s.heap s.heap [] := va_S.rf
  have hl : lv_has ls 1 [(0, .int x)] := hl
  refine lv_iload_n hx hb d_X_isConnection_0 rfl (lv_at hl 0 rfl) ?_
  refine lv_if_lt (tgt := 14) hx hb d_X_isConnection_1 (by decide) (fun c_1 => ?_) (fun c_1 => ?_)
  · refine lv_iconst (v := 0) hx hb d_X_isConnection_14 (by decide) ?_
    exact xr_Z (τ := σ) (val := (fun v _ => v = .int (xs_b (xm_in6 x)))) hC hW hX hS (by omega) (by omega) rfl rfl (by simp only [xm_in6, xs_b, c_1, decide_true, decide_false, if_true, if_false, reduceIte, Bool.false_eq_true, Bool.true_eq_false, and_true, true_and, and_false, false_and, or_true, true_or, or_false, false_or, not_true_eq_false, not_false_eq_true] <;> rfl) d_X_isConnection_15
  · refine lv_iload_n hx hb d_X_isConnection_4 rfl (lv_at hl 0 rfl) ?_
    refine lv_bipush (v := 6) hx hb d_X_isConnection_5 (by decide) ?_
    refine lv_icmp_ge (tgt := 14) hx hb d_X_isConnection_7 (by decide) (fun c_2 => ?_) (fun c_2 => ?_)
    · refine lv_iconst (v := 0) hx hb d_X_isConnection_14 (by decide) ?_
      exact xr_Z (τ := σ) (val := (fun v _ => v = .int (xs_b (xm_in6 x)))) hC hW hX hS (by omega) (by omega) rfl rfl (by simp only [xm_in6, xs_b, c_1, c_2, decide_true, decide_false, if_true, if_false, reduceIte, Bool.false_eq_true, Bool.true_eq_false, and_true, true_and, and_false, false_and, or_true, true_or, or_false, false_or, not_true_eq_false, not_false_eq_true] <;> rfl) d_X_isConnection_15
    · refine lv_iconst (v := 1) hx hb d_X_isConnection_10 (by decide) ?_
      refine lv_goto (tgt := 15) hx hb d_X_isConnection_11 (by decide) ?_
      exact xr_Z (τ := σ) (val := (fun v _ => v = .int (xs_b (xm_in6 x)))) hC hW hX hS (by omega) (by omega) rfl rfl (by simp only [xm_in6, xs_b, c_1, c_2, decide_true, decide_false, if_true, if_false, reduceIte, Bool.false_eq_true, Bool.true_eq_false, and_true, true_and, and_false, false_and, or_true, true_or, or_false, false_or, not_true_eq_false, not_false_eq_true] <;> rfl) d_X_isConnection_15
set_option maxHeartbeats 4000000 in
set_option maxRecDepth 100000 in
theorem c_X_onOneServer (l : Launch) (g : xw_G) (B : Nat → Prop) (o lim : Nat) (σ : xs_S) (x y : Int32) : xc_Q l y_X_onOneServer (Cond.code y_X_onOneServer b_X_onOneServer 2 (some .boolean)) g B o lim σ σ [.int x, .int y] (fun _ => True) (fun v _ => v = .int (xs_b (xm_one x y))) 0 0 0 0 := by
  refine xh_Q (own := R_X) (by decide) rfl (Nat.le_of_ble_eq_true rfl) ?_
  intro p e R s m below meth c ls hRf hRl hRc hRs hC hW hE hl
  obtain ⟨hx, hb, hml, hr, hown, hts, hlk⟩ := id hC
  have hX := hW.1
  have hK := hW.2.1
  have hS : va_S (xw_A o s.heap.size) s.heap s.heap [] := va_S.rf
  have hl : lv_has ls 2 [(0, .int x), (1, .int y)] := hl
  refine lv_iload_n hx hb d_X_onOneServer_0 rfl (lv_at hl 0 rfl) ?_
  refine lv_iconst (v := 4) hx hb d_X_onOneServer_1 (by decide) ?_
  refine lv_icmp_ge (tgt := 9) hx hb d_X_onOneServer_2 (by decide) (fun c_1 => ?_) (fun c_1 => ?_)
  · refine lv_iconst (v := 0) hx hb d_X_onOneServer_9 (by decide) ?_
    refine lv_iload_n hx hb d_X_onOneServer_10 rfl (lv_at hl 1 rfl) ?_
    refine lv_iconst (v := 4) hx hb d_X_onOneServer_11 (by decide) ?_
    refine lv_icmp_ge (tgt := 19) hx hb d_X_onOneServer_12 (by decide) (fun c_2 => ?_) (fun c_2 => ?_)
    · refine lv_iconst (v := 0) hx hb d_X_onOneServer_19 (by decide) ?_
      refine lv_icmp_ne (tgt := 27) hx hb d_X_onOneServer_20 (by decide) (fun c_3 => (c_3 (by decide)).elim) (fun c_3 => ?_)
      refine lv_iconst (v := 1) hx hb d_X_onOneServer_23 (by decide) ?_
      refine lv_goto (tgt := 28) hx hb d_X_onOneServer_24 (by decide) ?_
      exact xr_Z (τ := σ) (val := (fun v _ => v = .int (xs_b (xm_one x y)))) hC hW hX hS (by omega) (by omega) rfl rfl (by simp only [xm_one, xs_b, c_1, c_2, decide_true, decide_false, if_true, if_false, reduceIte, Bool.false_eq_true, Bool.true_eq_false, and_true, true_and, and_false, false_and, or_true, true_or, or_false, false_or, not_true_eq_false, not_false_eq_true] <;> rfl) d_X_onOneServer_28
    · refine lv_iconst (v := 1) hx hb d_X_onOneServer_15 (by decide) ?_
      refine lv_goto (tgt := 20) hx hb d_X_onOneServer_16 (by decide) ?_
      refine lv_icmp_ne (tgt := 27) hx hb d_X_onOneServer_20 (by decide) (fun c_4 => ?_) (fun c_4 => absurd c_4 (by decide))
      refine lv_iconst (v := 0) hx hb d_X_onOneServer_27 (by decide) ?_
      exact xr_Z (τ := σ) (val := (fun v _ => v = .int (xs_b (xm_one x y)))) hC hW hX hS (by omega) (by omega) rfl rfl (by simp only [xm_one, xs_b, c_1, c_2, decide_true, decide_false, if_true, if_false, reduceIte, Bool.false_eq_true, Bool.true_eq_false, and_true, true_and, and_false, false_and, or_true, true_or, or_false, false_or, not_true_eq_false, not_false_eq_true] <;> rfl) d_X_onOneServer_28
  · refine lv_iconst (v := 1) hx hb d_X_onOneServer_5 (by decide) ?_
    refine lv_goto (tgt := 10) hx hb d_X_onOneServer_6 (by decide) ?_
    refine lv_iload_n hx hb d_X_onOneServer_10 rfl (lv_at hl 1 rfl) ?_
    refine lv_iconst (v := 4) hx hb d_X_onOneServer_11 (by decide) ?_
    refine lv_icmp_ge (tgt := 19) hx hb d_X_onOneServer_12 (by decide) (fun c_5 => ?_) (fun c_5 => ?_)
    · refine lv_iconst (v := 0) hx hb d_X_onOneServer_19 (by decide) ?_
      refine lv_icmp_ne (tgt := 27) hx hb d_X_onOneServer_20 (by decide) (fun c_6 => ?_) (fun c_6 => absurd c_6 (by decide))
      refine lv_iconst (v := 0) hx hb d_X_onOneServer_27 (by decide) ?_
      exact xr_Z (τ := σ) (val := (fun v _ => v = .int (xs_b (xm_one x y)))) hC hW hX hS (by omega) (by omega) rfl rfl (by simp only [xm_one, xs_b, c_1, c_5, decide_true, decide_false, if_true, if_false, reduceIte, Bool.false_eq_true, Bool.true_eq_false, and_true, true_and, and_false, false_and, or_true, true_or, or_false, false_or, not_true_eq_false, not_false_eq_true] <;> rfl) d_X_onOneServer_28
    · refine lv_iconst (v := 1) hx hb d_X_onOneServer_15 (by decide) ?_
      refine lv_goto (tgt := 20) hx hb d_X_onOneServer_16 (by decide) ?_
      refine lv_icmp_ne (tgt := 27) hx hb d_X_onOneServer_20 (by decide) (fun c_7 => (c_7 (by decide)).elim) (fun c_7 => ?_)
      refine lv_iconst (v := 1) hx hb d_X_onOneServer_23 (by decide) ?_
      refine lv_goto (tgt := 28) hx hb d_X_onOneServer_24 (by decide) ?_
      exact xr_Z (τ := σ) (val := (fun v _ => v = .int (xs_b (xm_one x y)))) hC hW hX hS (by omega) (by omega) rfl rfl (by simp only [xm_one, xs_b, c_1, c_5, decide_true, decide_false, if_true, if_false, reduceIte, Bool.false_eq_true, Bool.true_eq_false, and_true, true_and, and_false, false_and, or_true, true_or, or_false, false_or, not_true_eq_false, not_false_eq_true] <;> rfl) d_X_onOneServer_28
set_option maxHeartbeats 4000000 in
set_option maxRecDepth 100000 in
theorem c_X_canReach (l : Launch) (g : xw_G) (B : Nat → Prop) (o lim : Nat) (σ : xs_S) (x y : Int32) : xc_Q l y_X_canReach (Cond.code y_X_canReach b_X_canReach 3 (some .boolean)) g B o lim σ σ [.ref o, .int x, .int y] (fun _ => True) (fun v _ => v = .int (xs_b (xm_reach σ x y))) 1 21 0 0 := by
  refine xh_Q (own := R_X) (by decide) rfl (Nat.le_of_ble_eq_true rfl) ?_
  intro p e R s m below meth c ls hRf hRl hRc hRs hC hW hE hl
  obtain ⟨hx, hb, hml, hr, hown, hts, hlk⟩ := id hC
  have hX := hW.1
  have hK := hW.2.1
  have hS : va_S (xw_A o s.heap.size) s.heap s.heap [] := va_S.rf
  have hl : lv_has ls 3 [(0, .ref o), (1, .int x), (2, .int y)] := hl
  refine lv_aload_n hx hb d_X_canReach_0 rfl (lv_at hl 0 rfl) ?_
  obtain ⟨v9, hXo, hXl⟩ := hX.1
  refine gf_X_X_linkUp hx hb hts hown hK hXo rfl d_X_canReach_1 ?_
  refine lv_if_ne (tgt := 15) hx hb d_X_canReach_4 (by decide) (fun c_1 => ?_) (fun c_1 => ?_)
  · have c_1 := xs_b1 c_1
    refine lv_iconst (v := 1) hx hb d_X_canReach_15 (by decide) ?_
    refine lv_goto (tgt := 20) hx hb d_X_canReach_16 (by decide) ?_
    exact xr_Z (τ := σ) (val := (fun v _ => v = .int (xs_b (xm_reach σ x y)))) hC hW hX hS (by omega) (by omega) rfl rfl (by simp only [xm_reach, xs_b, c_1, Bool.true_or, Bool.false_or, if_true, if_false, reduceIte, Bool.false_eq_true, Bool.true_eq_false, and_true, true_and, and_false, false_and, or_true, true_or, or_false, false_or, not_true_eq_false, not_false_eq_true] <;> rfl) d_X_canReach_20
  · have c_1 := xs_b0 c_1
    refine lv_iload_n hx hb d_X_canReach_7 rfl (lv_at hl 1 rfl) ?_
    refine lv_iload_n hx hb d_X_canReach_8 rfl (lv_at hl 2 rfl) ?_
    refine xk_sQ (rest := []) (c_X_onOneServer l g B o lim σ x y) gd_X_X_onOneServer hd_X_onOneServer hC hW hX hS trivial (by omega) (by omega) (by omega) (by omega) hl.1 rfl (Nat.le_of_ble_eq_true rfl) d_X_canReach_9 (fun v8 H locs hv hX hS hF => ?_)
    obtain rfl := hv
    refine lv_if_eq (tgt := 19) hx hb d_X_canReach_12 (by decide) (fun c_2 => ?_) (fun c_2 => ?_)
    · have c_2 := xs_b0 c_2
      refine lv_iconst (v := 0) hx hb d_X_canReach_19 (by decide) ?_
      exact xr_Z (τ := σ) (val := (fun v _ => v = .int (xs_b (xm_reach σ x y)))) hC hW hX hS (by omega) (by omega) rfl rfl (by simp only [xm_reach, xs_b, c_1, c_2, Bool.true_or, Bool.false_or, if_true, if_false, reduceIte, Bool.false_eq_true, Bool.true_eq_false, and_true, true_and, and_false, false_and, or_true, true_or, or_false, false_or, not_true_eq_false, not_false_eq_true] <;> rfl) d_X_canReach_20
    · have c_2 := xs_b1 c_2
      refine lv_iconst (v := 1) hx hb d_X_canReach_15 (by decide) ?_
      refine lv_goto (tgt := 20) hx hb d_X_canReach_16 (by decide) ?_
      exact xr_Z (τ := σ) (val := (fun v _ => v = .int (xs_b (xm_reach σ x y)))) hC hW hX hS (by omega) (by omega) rfl rfl (by simp only [xm_reach, xs_b, c_1, c_2, Bool.true_or, Bool.false_or, if_true, if_false, reduceIte, Bool.false_eq_true, Bool.true_eq_false, and_true, true_and, and_false, false_and, or_true, true_or, or_false, false_or, not_true_eq_false, not_false_eq_true] <;> rfl) d_X_canReach_20
set_option maxHeartbeats 4000000 in
set_option maxRecDepth 100000 in
theorem c_C_isAvailableFor (l : Launch) (g : xw_G) (B : Nat → Prop) (o lim : Nat) (σ : xs_S) (i : Nat) (hi : i < 6) (x : Int32) : xc_Q l y_C_isAvailableFor (Cond.code y_C_isAvailableFor b_C_isAvailableFor 2 (some .boolean)) g B o lim σ σ [.ref (o + 36 + 3 * i), .int x] (fun _ => True) (fun v _ => v = .int (xs_b (xm_av σ i x))) 0 0 0 0 := by
  refine xh_Q (own := R_C) (by decide) rfl (Nat.le_of_ble_eq_true rfl) ?_
  intro p e R s m below meth c ls hRf hRl hRc hRs hC hW hE hl
  obtain ⟨hx, hb, hml, hr, hown, hts, hlk⟩ := id hC
  have hX := hW.1
  have hK := hW.2.1
  have hS : va_S (xw_A o s.heap.size) s.heap s.heap [] := va_S.rf
  have hl : lv_has ls 2 [(0, .ref (o + 36 + 3 * i)), (1, .int x)] := hl
  refine lv_aload_n hx hb d_C_isAvailableFor_0 rfl (lv_at hl 0 rfl) ?_
  refine gf_C_C_available hx hb hts hown hK (hX.2.2.2.2.2.1 i hi) rfl d_C_isAvailableFor_1 ?_
  refine lv_if_eq (tgt := 19) hx hb d_C_isAvailableFor_4 (by decide) (fun c_1 => ?_) (fun c_1 => ?_)
  · have c_1 := xs_b0 c_1
    refine lv_iconst (v := 0) hx hb d_C_isAvailableFor_19 (by decide) ?_
    exact xr_Z (τ := σ) (val := (fun v _ => v = .int (xs_b (xm_av σ i x)))) hC hW hX hS (by omega) (by omega) rfl rfl (by simp only [xm_av, xs_b, c_1, Bool.true_and, Bool.false_and, decide_true, decide_false, if_true, if_false, reduceIte, Bool.false_eq_true, Bool.true_eq_false, and_true, true_and, and_false, false_and, or_true, true_or, or_false, false_or, not_true_eq_false, not_false_eq_true] <;> rfl) d_C_isAvailableFor_20
  · have c_1 := xs_b1 c_1
    refine lv_aload_n hx hb d_C_isAvailableFor_7 rfl (lv_at hl 0 rfl) ?_
    refine gf_C_C_account hx hb hts hown hK (hX.2.2.2.2.2.1 i hi) rfl d_C_isAvailableFor_8 ?_
    refine lv_iload_n hx hb d_C_isAvailableFor_11 rfl (lv_at hl 1 rfl) ?_
    refine lv_icmp_ne (tgt := 19) hx hb d_C_isAvailableFor_12 (by decide) (fun c_2 => ?_) (fun c_2 => ?_)
    · refine lv_iconst (v := 0) hx hb d_C_isAvailableFor_19 (by decide) ?_
      exact xr_Z (τ := σ) (val := (fun v _ => v = .int (xs_b (xm_av σ i x)))) hC hW hX hS (by omega) (by omega) rfl rfl (by simp only [xm_av, xs_b, c_1, c_2, Bool.true_and, Bool.false_and, decide_true, decide_false, if_true, if_false, reduceIte, Bool.false_eq_true, Bool.true_eq_false, and_true, true_and, and_false, false_and, or_true, true_or, or_false, false_or, not_true_eq_false, not_false_eq_true] <;> rfl) d_C_isAvailableFor_20
    · refine lv_iconst (v := 1) hx hb d_C_isAvailableFor_15 (by decide) ?_
      refine lv_goto (tgt := 20) hx hb d_C_isAvailableFor_16 (by decide) ?_
      exact xr_Z (τ := σ) (val := (fun v _ => v = .int (xs_b (xm_av σ i x)))) hC hW hX hS (by omega) (by omega) rfl rfl (by simp only [xm_av, xs_b, c_1, c_2, Bool.true_and, Bool.false_and, decide_true, decide_false, if_true, if_false, reduceIte, Bool.false_eq_true, Bool.true_eq_false, and_true, true_and, and_false, false_and, or_true, true_or, or_false, false_or, not_true_eq_false, not_false_eq_true] <;> rfl) d_C_isAvailableFor_20
set_option maxHeartbeats 4000000 in
set_option maxRecDepth 100000 in
theorem c_X_isRightProof (l : Launch) (g : xw_G) (B : Nat → Prop) (o lim : Nat) (σ : xs_S) (i : Nat) (hi : i < 6) (x : Int32) (hvac : vp_in (xs_cn σ i).2.1 8) : xc_Q l y_X_isRightProof (Cond.code y_X_isRightProof b_X_isRightProof 4 (some .boolean)) g B o lim σ σ [.ref o, .ref (o + 36 + 3 * i), .int x] (fun _ => True) (fun v _ => v = .int (xs_b (xm_proof σ i x))) 0 0 0 0 := by
  refine xh_Q (own := R_X) (by decide) rfl (Nat.le_of_ble_eq_true rfl) ?_
  intro p e R s m below meth c ls hRf hRl hRc hRs hC hW hE hl
  obtain ⟨hx, hb, hml, hr, hown, hts, hlk⟩ := id hC
  have hX := hW.1
  have hK := hW.2.1
  have hS : va_S (xw_A o s.heap.size) s.heap s.heap [] := va_S.rf
  have hl : lv_has ls 4 [(0, .ref o), (1, .ref (o + 36 + 3 * i)), (2, .int x)] := hl
  refine lv_aload_n hx hb d_X_isRightProof_0 rfl (lv_at hl 0 rfl) ?_
  obtain ⟨v9, hXo, hXl⟩ := hX.1
  refine gf_X_X_accounts hx hb hts hown hK hXo rfl d_X_isRightProof_1 ?_
  refine lv_aload_n hx hb d_X_isRightProof_4 rfl (lv_at hl 1 rfl) ?_
  refine gf_X_C_account hx hb hts hown hK (hX.2.2.2.2.2.1 i hi) rfl d_X_isRightProof_5 ?_
  refine xb_aald (v := o + 3 + 4 * (xs_ix ((xs_cn σ i).2.1))) hx hb hK 0 rfl hX.2.1 hvac rfl d_X_isRightProof_8 ?_
  refine lv_astore_n (lv' := [(3, .ref (o + 3 + 4 * (xs_ix ((xs_cn σ i).2.1)))), (0, .ref o), (1, .ref (o + 36 + 3 * i)), (2, .int x)]) hx hb d_X_isRightProof_9 rfl hl (by decide) rfl (fun ls hl => ?_)
  refine lv_aload_n hx hb d_X_isRightProof_10 rfl (lv_at hl 0 rfl) ?_
  refine gf_X_A_registered hx hb hts hown hK (hX.2.2.2.1 (xs_ix ((xs_cn σ i).2.1)) (xs_ixl hvac)) rfl d_X_isRightProof_11 ?_
  refine lv_if_eq (tgt := 41) hx hb d_X_isRightProof_14 (by decide) (fun c_1 => ?_) (fun c_1 => ?_)
  · have c_1 := xs_b0 c_1
    refine lv_iconst (v := 0) hx hb d_X_isRightProof_41 (by decide) ?_
    exact xr_Z (τ := σ) (val := (fun v _ => v = .int (xs_b (xm_proof σ i x)))) hC hW hX hS (by omega) (by omega) rfl rfl (by simp only [xm_proof, xs_b, c_1, Bool.true_and, Bool.false_and, decide_true, decide_false, if_true, if_false, reduceIte, Bool.false_eq_true, Bool.true_eq_false, and_true, true_and, and_false, false_and, or_true, true_or, or_false, false_or, not_true_eq_false, not_false_eq_true] <;> rfl) d_X_isRightProof_42
  · have c_1 := xs_b1 c_1
    refine lv_iload_n hx hb d_X_isRightProof_17 rfl (lv_at hl 3 rfl) ?_
    refine lv_aload_n hx hb d_X_isRightProof_18 rfl (lv_at hl 0 rfl) ?_
    refine gf_X_A_password hx hb hts hown hK (hX.2.2.2.1 (xs_ix ((xs_cn σ i).2.1)) (xs_ixl hvac)) rfl d_X_isRightProof_19 ?_
    refine lv_bipush (v := 31) hx hb d_X_isRightProof_22 (by decide) ?_
    refine lv_imul hx hb d_X_isRightProof_24 ?_
    refine lv_aload_n hx hb d_X_isRightProof_25 rfl (lv_at hl 2 rfl) ?_
    refine gf_X_C_challenge hx hb hts hown hK (hX.2.2.2.2.2.1 i hi) rfl d_X_isRightProof_26 ?_
    refine lv_iadd hx hb d_X_isRightProof_29 ?_
    refine lv_sipush (v := 10007) hx hb d_X_isRightProof_30 (by decide) ?_
    refine lv_irem hx hb d_X_isRightProof_33 (by decide) ?_
    refine lv_icmp_ne (tgt := 41) hx hb d_X_isRightProof_34 (by decide) (fun c_2 => ?_) (fun c_2 => ?_)
    · refine lv_iconst (v := 0) hx hb d_X_isRightProof_41 (by decide) ?_
      exact xr_Z (τ := σ) (val := (fun v _ => v = .int (xs_b (xm_proof σ i x)))) hC hW hX hS (by omega) (by omega) rfl rfl (by simp only [xm_proof, xs_b, c_1, c_2, Bool.true_and, Bool.false_and, decide_true, decide_false, if_true, if_false, reduceIte, Bool.false_eq_true, Bool.true_eq_false, and_true, true_and, and_false, false_and, or_true, true_or, or_false, false_or, not_true_eq_false, not_false_eq_true] <;> rfl) d_X_isRightProof_42
    · refine lv_iconst (v := 1) hx hb d_X_isRightProof_37 (by decide) ?_
      refine lv_goto (tgt := 42) hx hb d_X_isRightProof_38 (by decide) ?_
      exact xr_Z (τ := σ) (val := (fun v _ => v = .int (xs_b (xm_proof σ i x)))) hC hW hX hS (by omega) (by omega) rfl rfl (by simp only [xm_proof, xs_b, c_1, c_2, Bool.true_and, Bool.false_and, decide_true, decide_false, if_true, if_false, reduceIte, Bool.false_eq_true, Bool.true_eq_false, and_true, true_and, and_false, false_and, or_true, true_or, or_false, false_or, not_true_eq_false, not_false_eq_true] <;> rfl) d_X_isRightProof_42
set_option maxHeartbeats 4000000 in
set_option maxRecDepth 100000 in
theorem c_X_boundWith (l : Launch) (g : xw_G) (B : Nat → Prop) (o lim : Nat) (σ : xs_S) (x y : Int32) : xc_Q l y_X_boundWith (Cond.code y_X_boundWith b_X_boundWith 7 (some (.object "XmppPair$Connection"))) g B o lim σ σ [.ref o, .int x, .int y] (fun _ => True) (fun v _ => xm_bwV o (xm_bw 6 0 σ x y) v) 0 0 0 0 := by
  refine xh_Q (own := R_X) (by decide) rfl (Nat.le_of_ble_eq_true rfl) ?_
  intro p e R s m below meth c ls hRf hRl hRc hRs hC hW hE hl
  obtain ⟨hx, hb, hml, hr, hown, hts, hlk⟩ := id hC
  have hX := hW.1
  have hK := hW.2.1
  have hS : va_S (xw_A o s.heap.size) s.heap s.heap [] := va_S.rf
  have hl : lv_has ls 7 [(0, .ref o), (1, .int x), (2, .int y)] := hl
  refine lv_aload_n hx hb d_X_boundWith_0 rfl (lv_at hl 0 rfl) ?_
  obtain ⟨v9, hXo, hXl⟩ := hX.1
  refine gf_X_X_connections hx hb hts hown hK hXo rfl d_X_boundWith_1 ?_
  refine lv_astore_n (lv' := [(3, .ref (o + 35)), (0, .ref o), (1, .int x), (2, .int y)]) hx hb d_X_boundWith_4 rfl hl (by decide) rfl (fun ls hl => ?_)
  refine lv_aload_n hx hb d_X_boundWith_5 rfl (lv_at hl 0 rfl) ?_
  refine xb_alen hx hb hK 1 rfl hX.2.2.1 d_X_boundWith_6 ?_
  refine lv_istore (lv' := [(4, .int (nI 6)), (3, .ref (o + 35)), (0, .ref o), (1, .int x), (2, .int y)]) hx hb d_X_boundWith_7 hl (by decide) rfl (fun ls hl => ?_)
  refine lv_iconst (v := 0) hx hb d_X_boundWith_9 (by decide) ?_
  refine lv_istore (lv' := [(5, .int 0), (4, .int (nI 6)), (3, .ref (o + 35)), (0, .ref o), (1, .int x), (2, .int y)]) hx hb d_X_boundWith_10 hl (by decide) rfl (fun ls hl => ?_)
  have loop : ∀ (n i : Nat)  (H : Heap) (locs : List Loc) (cells slots : Nat) (ls : Array Slot), i + n = 6 → xw_R g B o σ H → va_S (xw_A o s.heap.size) s.heap H locs → cells + n * 0 ≤ 0 → slots + n * 0 ≤ 0 → lv_has ls 7 [(5, .int (nI i)), (4, .int (nI 6)), (3, .ref (o + 35)), (0, .ref o), (1, .int x), (2, .int y)] → xm_bw n i σ x y = xm_bw 6 0 σ x y → W p l e R s m ([.ref o, .int x, .int y] : List Value).toArray below meth c H locs cells slots (MQ below (xb_Q (fun v t => (fun v _ => xm_bwV o (xm_bw 6 0 σ x y) v) v t.heap ∧ xw_W g B o lim σ t) (xw_A o s.heap.size)) ([.ref o, .int x, .int y] : List Value).toArray s 0 0 (xw_A o s.heap.size)) (F0 m 12 ls []) := by
    intro n
    induction n with
    | zero =>
      intro i  H locs cells slots ls hi hX hS  hc hs hl hres 
      obtain rfl : i = 6 := by omega
      refine lv_iload hx hb d_X_boundWith_12 (lv_at hl 0 rfl) ?_
      refine lv_iload hx hb d_X_boundWith_14 (lv_at hl 1 rfl) ?_
      refine lv_icmp_ge (tgt := 61) hx hb d_X_boundWith_16 (by decide) (fun c_1 => ?_) (fun c_1 => absurd (nI_le (Nat.le_refl 6) (by decide)) c_1)
      refine lv_null hx hb d_X_boundWith_61 ?_
      exact xr_R (τ := σ) (val := (fun v _ => xm_bwV o (xm_bw 6 0 σ x y) v)) hC hW hX hS (by omega) (by omega) rfl (Or.inl rfl) (by rw [← hres]; rfl) d_X_boundWith_62
    | succ n ih =>
      intro i  H locs cells slots ls hi hX hS  hc hs hl hres 
      refine lv_iload hx hb d_X_boundWith_12 (lv_at hl 0 rfl) ?_
      refine lv_iload hx hb d_X_boundWith_14 (lv_at hl 1 rfl) ?_
      refine lv_icmp_ge (tgt := 61) hx hb d_X_boundWith_16 (by decide) (fun c_2 => absurd c_2 (nI_ge (show i < 6 by omega) (by decide))) (fun c_2 => ?_)
      refine lv_aload_n hx hb d_X_boundWith_19 rfl (lv_at hl 2 rfl) ?_
      refine lv_iload hx hb d_X_boundWith_20 (lv_at hl 0 rfl) ?_
      refine xb_aald (v := o + 36 + 3 * i) hx hb hK 1 rfl hX.2.2.1 (vp_in_nI (show i < 6 by omega) (by decide)) (by rw [nI_clamp (by omega)]) d_X_boundWith_22 ?_
      refine lv_astore (lv' := [(6, .ref (o + 36 + 3 * i)), (5, .int (nI i)), (4, .int (nI 6)), (3, .ref (o + 35)), (0, .ref o), (1, .int x), (2, .int y)]) hx hb d_X_boundWith_23 hl (by decide) rfl (fun ls hl => ?_)
      refine lv_aload hx hb d_X_boundWith_25 (lv_at hl 0 rfl) ?_
      refine gf_X_C_stage hx hb hts hown hK (hX.2.2.2.2.2.1 i (show i < 6 by omega)) rfl d_X_boundWith_27 ?_
      refine lv_iconst (v := 4) hx hb d_X_boundWith_30 (by decide) ?_
      refine lv_icmp_ne (tgt := 55) hx hb d_X_boundWith_31 (by decide) (fun c_3 => ?_) (fun c_3 => ?_)
      · refine lv_iinc (v := nI (i + 1)) (lv' := [(5, .int (nI (i + 1))), (6, .ref (o + 36 + 3 * i)), (4, .int (nI 6)), (3, .ref (o + 35)), (0, .ref o), (1, .int x), (2, .int y)]) hx hb d_X_boundWith_55 hl (k := 1) rfl (nI_1 _) (by decide) rfl (fun ls hl => ?_)
        refine lv_goto (tgt := 12) hx hb d_X_boundWith_58 (by decide) ?_
        exact ih (i + 1)  _ _ _ _ ls (by omega) hX hS  (by omega) (by omega) (lv_sub hl [0, 2, 3, 4, 5, 6] rfl) (by rw [← hres]; simp only [xm_bw, c_3, if_true, if_false, reduceIte, Bool.false_eq_true, Bool.true_eq_false, and_true, true_and, and_false, false_and, or_true, true_or, or_false, false_or, not_true_eq_false, not_false_eq_true] <;> rfl) 
      · refine lv_aload hx hb d_X_boundWith_34 (lv_at hl 0 rfl) ?_
        refine gf_X_C_account hx hb hts hown hK (hX.2.2.2.2.2.1 i (show i < 6 by omega)) rfl d_X_boundWith_36 ?_
        refine lv_iload_n hx hb d_X_boundWith_39 rfl (lv_at hl 5 rfl) ?_
        refine lv_icmp_ne (tgt := 55) hx hb d_X_boundWith_40 (by decide) (fun c_4 => ?_) (fun c_4 => ?_)
        · refine lv_iinc (v := nI (i + 1)) (lv' := [(5, .int (nI (i + 1))), (6, .ref (o + 36 + 3 * i)), (4, .int (nI 6)), (3, .ref (o + 35)), (0, .ref o), (1, .int x), (2, .int y)]) hx hb d_X_boundWith_55 hl (k := 1) rfl (nI_1 _) (by decide) rfl (fun ls hl => ?_)
          refine lv_goto (tgt := 12) hx hb d_X_boundWith_58 (by decide) ?_
          exact ih (i + 1)  _ _ _ _ ls (by omega) hX hS  (by omega) (by omega) (lv_sub hl [0, 2, 3, 4, 5, 6] rfl) (by rw [← hres]; simp only [xm_bw, c_3, c_4, if_true, if_false, reduceIte, Bool.false_eq_true, Bool.true_eq_false, and_true, true_and, and_false, false_and, or_true, true_or, or_false, false_or, not_true_eq_false, not_false_eq_true] <;> rfl) 
        · refine lv_aload hx hb d_X_boundWith_43 (lv_at hl 0 rfl) ?_
          refine gf_X_C_resource hx hb hts hown hK (hX.2.2.2.2.2.1 i (show i < 6 by omega)) rfl d_X_boundWith_45 ?_
          refine lv_iload_n hx hb d_X_boundWith_48 rfl (lv_at hl 6 rfl) ?_
          refine lv_icmp_ne (tgt := 55) hx hb d_X_boundWith_49 (by decide) (fun c_5 => ?_) (fun c_5 => ?_)
          · refine lv_iinc (v := nI (i + 1)) (lv' := [(5, .int (nI (i + 1))), (6, .ref (o + 36 + 3 * i)), (4, .int (nI 6)), (3, .ref (o + 35)), (0, .ref o), (1, .int x), (2, .int y)]) hx hb d_X_boundWith_55 hl (k := 1) rfl (nI_1 _) (by decide) rfl (fun ls hl => ?_)
            refine lv_goto (tgt := 12) hx hb d_X_boundWith_58 (by decide) ?_
            exact ih (i + 1)  _ _ _ _ ls (by omega) hX hS  (by omega) (by omega) (lv_sub hl [0, 2, 3, 4, 5, 6] rfl) (by rw [← hres]; simp only [xm_bw, c_3, c_4, c_5, if_true, if_false, reduceIte, Bool.false_eq_true, Bool.true_eq_false, and_true, true_and, and_false, false_and, or_true, true_or, or_false, false_or, not_true_eq_false, not_false_eq_true] <;> rfl) 
          · refine lv_aload hx hb d_X_boundWith_52 (lv_at hl 0 rfl) ?_
            exact xr_R (τ := σ) (val := (fun v _ => xm_bwV o (xm_bw 6 0 σ x y) v)) hC hW hX hS (by omega) (by omega) rfl (Or.inr ⟨_, rfl⟩) (by rw [← hres]; simp only [xm_bw, c_3, c_4, c_5, if_true, if_false, reduceIte, Bool.false_eq_true, Bool.true_eq_false, and_true, true_and, and_false, false_and, or_true, true_or, or_false, false_or, not_true_eq_false, not_false_eq_true]; exact ⟨rfl, by omega⟩) d_X_boundWith_54
  exact loop 6 0  _ _ _ _ ls (by omega) hX hS  (by omega) (by omega) (lv_sub hl [0, 1, 2, 3, 4, 5] rfl) rfl 
set_option maxHeartbeats 4000000 in
set_option maxRecDepth 100000 in
theorem c_X_greatestPriority (l : Launch) (g : xw_G) (B : Nat → Prop) (o lim : Nat) (σ : xs_S) (x : Int32) : xc_Q l y_X_greatestPriority (Cond.code y_X_greatestPriority b_X_greatestPriority 7 (some .int)) g B o lim σ σ [.ref o, .int x] (fun _ => True) (fun v _ => v = .int (xm_great 6 0 σ x (-1))) 1 21 0 0 := by
  refine xh_Q (own := R_X) (by decide) rfl (Nat.le_of_ble_eq_true rfl) ?_
  intro p e R s m below meth c ls hRf hRl hRc hRs hC hW hE hl
  obtain ⟨hx, hb, hml, hr, hown, hts, hlk⟩ := id hC
  have hX := hW.1
  have hK := hW.2.1
  have hS : va_S (xw_A o s.heap.size) s.heap s.heap [] := va_S.rf
  have hl : lv_has ls 7 [(0, .ref o), (1, .int x)] := hl
  refine lv_iconst (v := (-1)) hx hb d_X_greatestPriority_0 (by decide) ?_
  refine lv_istore_n (lv' := [(2, .int (-1)), (0, .ref o), (1, .int x)]) hx hb d_X_greatestPriority_1 rfl hl (by decide) rfl (fun ls hl => ?_)
  refine lv_aload_n hx hb d_X_greatestPriority_2 rfl (lv_at hl 1 rfl) ?_
  obtain ⟨v9, hXo, hXl⟩ := hX.1
  refine gf_X_X_connections hx hb hts hown hK hXo rfl d_X_greatestPriority_3 ?_
  refine lv_astore_n (lv' := [(3, .ref (o + 35)), (2, .int (-1)), (0, .ref o), (1, .int x)]) hx hb d_X_greatestPriority_6 rfl hl (by decide) rfl (fun ls hl => ?_)
  refine lv_aload_n hx hb d_X_greatestPriority_7 rfl (lv_at hl 0 rfl) ?_
  refine xb_alen hx hb hK 1 rfl hX.2.2.1 d_X_greatestPriority_8 ?_
  refine lv_istore (lv' := [(4, .int (nI 6)), (3, .ref (o + 35)), (2, .int (-1)), (0, .ref o), (1, .int x)]) hx hb d_X_greatestPriority_9 hl (by decide) rfl (fun ls hl => ?_)
  refine lv_iconst (v := 0) hx hb d_X_greatestPriority_11 (by decide) ?_
  refine lv_istore (lv' := [(5, .int 0), (4, .int (nI 6)), (3, .ref (o + 35)), (2, .int (-1)), (0, .ref o), (1, .int x)]) hx hb d_X_greatestPriority_12 hl (by decide) rfl (fun ls hl => ?_)
  have loop : ∀ (n i : Nat) (g0 : Int32) (H : Heap) (locs : List Loc) (cells slots : Nat) (ls : Array Slot), i + n = 6 → xw_R g B o σ H → va_S (xw_A o s.heap.size) s.heap H locs → cells + n * 0 ≤ 0 → slots + n * 0 ≤ 0 → lv_has ls 7 [(5, .int (nI i)), (4, .int (nI 6)), (3, .ref (o + 35)), (2, .int g0), (0, .ref o), (1, .int x)] → xm_great n i σ x g0 = xm_great 6 0 σ x (-1) → W p l e R s m ([.ref o, .int x] : List Value).toArray below meth c H locs cells slots (MQ below (xb_Q (fun v t => (fun v _ => v = .int (xm_great 6 0 σ x (-1))) v t.heap ∧ xw_W g B o lim σ t) (xw_A o s.heap.size)) ([.ref o, .int x] : List Value).toArray s 0 0 (xw_A o s.heap.size)) (F0 m 14 ls []) := by
    intro n
    induction n with
    | zero =>
      intro i g0 H locs cells slots ls hi hX hS  hc hs hl hres 
      obtain rfl : i = 6 := by omega
      refine lv_iload hx hb d_X_greatestPriority_14 (lv_at hl 0 rfl) ?_
      refine lv_iload hx hb d_X_greatestPriority_16 (lv_at hl 1 rfl) ?_
      refine lv_icmp_ge (tgt := 57) hx hb d_X_greatestPriority_18 (by decide) (fun c_1 => ?_) (fun c_1 => absurd (nI_le (Nat.le_refl 6) (by decide)) c_1)
      refine lv_iload_n hx hb d_X_greatestPriority_57 rfl (lv_at hl 3 rfl) ?_
      exact xr_I (τ := σ) (val := (fun v _ => v = .int (xm_great 6 0 σ x (-1)))) hC hW hX hS (by omega) (by omega) rfl (by rw [← hres]; rfl) d_X_greatestPriority_58
    | succ n ih =>
      intro i g0 H locs cells slots ls hi hX hS  hc hs hl hres 
      refine lv_iload hx hb d_X_greatestPriority_14 (lv_at hl 0 rfl) ?_
      refine lv_iload hx hb d_X_greatestPriority_16 (lv_at hl 1 rfl) ?_
      refine lv_icmp_ge (tgt := 57) hx hb d_X_greatestPriority_18 (by decide) (fun c_2 => absurd c_2 (nI_ge (show i < 6 by omega) (by decide))) (fun c_2 => ?_)
      refine lv_aload_n hx hb d_X_greatestPriority_21 rfl (lv_at hl 2 rfl) ?_
      refine lv_iload hx hb d_X_greatestPriority_22 (lv_at hl 0 rfl) ?_
      refine xb_aald (v := o + 36 + 3 * i) hx hb hK 1 rfl hX.2.2.1 (vp_in_nI (show i < 6 by omega) (by decide)) (by rw [nI_clamp (by omega)]) d_X_greatestPriority_24 ?_
      refine lv_astore (lv' := [(6, .ref (o + 36 + 3 * i)), (5, .int (nI i)), (4, .int (nI 6)), (3, .ref (o + 35)), (2, .int g0), (0, .ref o), (1, .int x)]) hx hb d_X_greatestPriority_25 hl (by decide) rfl (fun ls hl => ?_)
      refine lv_aload hx hb d_X_greatestPriority_27 (lv_at hl 0 rfl) ?_
      refine lv_iload_n hx hb d_X_greatestPriority_29 rfl (lv_at hl 6 rfl) ?_
      refine xk_iQ (rest := []) (c_C_isAvailableFor l g B o lim σ i (show i < 6 by omega) x) gd_X_C_isAvailableFor hd_C_isAvailableFor hC hW hX hS (xb_recv hK (ci := xi_C) rfl (hX.2.2.2.2.2.1 i (show i < 6 by omega))) trivial (by omega) (by omega) (by omega) (by omega) hl.1 rfl (Nat.le_of_ble_eq_true rfl) d_X_greatestPriority_30 (fun v8 H locs hv hX hS hF => ?_)
      obtain rfl := hv
      refine lv_if_eq (tgt := 51) hx hb d_X_greatestPriority_33 (by decide) (fun c_3 => ?_) (fun c_3 => ?_)
      · have c_3 := xs_b0 c_3
        refine lv_iinc (v := nI (i + 1)) (lv' := [(5, .int (nI (i + 1))), (6, .ref (o + 36 + 3 * i)), (4, .int (nI 6)), (3, .ref (o + 35)), (2, .int g0), (0, .ref o), (1, .int x)]) hx hb d_X_greatestPriority_51 hl (k := 1) rfl (nI_1 _) (by decide) rfl (fun ls hl => ?_)
        refine lv_goto (tgt := 14) hx hb d_X_greatestPriority_54 (by decide) ?_
        exact ih (i + 1) g0 _ _ _ _ ls (by omega) hX hS  (by omega) (by omega) (lv_sub hl [0, 2, 3, 4, 5, 6] rfl) (by rw [← hres]; simp only [xm_great, c_3, if_true, if_false, reduceIte, Bool.false_eq_true, Bool.true_eq_false, and_true, true_and, and_false, false_and, or_true, true_or, or_false, false_or, not_true_eq_false, not_false_eq_true] <;> rfl) 
      · have c_3 := xs_b1 c_3
        refine lv_aload hx hb d_X_greatestPriority_36 (lv_at hl 0 rfl) ?_
        refine gf_X_C_priority hx hb hts hown hK (hX.2.2.2.2.2.1 i (show i < 6 by omega)) rfl d_X_greatestPriority_38 ?_
        refine lv_iload_n hx hb d_X_greatestPriority_41 rfl (lv_at hl 4 rfl) ?_
        refine lv_icmp_le (tgt := 51) hx hb d_X_greatestPriority_42 (by decide) (fun c_4 => ?_) (fun c_4 => ?_)
        · refine lv_iinc (v := nI (i + 1)) (lv' := [(5, .int (nI (i + 1))), (6, .ref (o + 36 + 3 * i)), (4, .int (nI 6)), (3, .ref (o + 35)), (2, .int g0), (0, .ref o), (1, .int x)]) hx hb d_X_greatestPriority_51 hl (k := 1) rfl (nI_1 _) (by decide) rfl (fun ls hl => ?_)
          refine lv_goto (tgt := 14) hx hb d_X_greatestPriority_54 (by decide) ?_
          exact ih (i + 1) g0 _ _ _ _ ls (by omega) hX hS  (by omega) (by omega) (lv_sub hl [0, 2, 3, 4, 5, 6] rfl) (by rw [← hres]; simp only [xm_great, c_3, c_4, if_true, if_false, reduceIte, Bool.false_eq_true, Bool.true_eq_false, and_true, true_and, and_false, false_and, or_true, true_or, or_false, false_or, not_true_eq_false, not_false_eq_true] <;> rfl) 
        · refine lv_aload hx hb d_X_greatestPriority_45 (lv_at hl 0 rfl) ?_
          refine gf_X_C_priority hx hb hts hown hK (hX.2.2.2.2.2.1 i (show i < 6 by omega)) rfl d_X_greatestPriority_47 ?_
          refine lv_istore_n (lv' := [(2, .int ((xs_cn σ i).2.2.2.1)), (6, .ref (o + 36 + 3 * i)), (5, .int (nI i)), (4, .int (nI 6)), (3, .ref (o + 35)), (0, .ref o), (1, .int x)]) hx hb d_X_greatestPriority_50 rfl hl (by decide) rfl (fun ls hl => ?_)
          refine lv_iinc (v := nI (i + 1)) (lv' := [(5, .int (nI (i + 1))), (2, .int ((xs_cn σ i).2.2.2.1)), (6, .ref (o + 36 + 3 * i)), (4, .int (nI 6)), (3, .ref (o + 35)), (0, .ref o), (1, .int x)]) hx hb d_X_greatestPriority_51 hl (k := 2) rfl (nI_1 _) (by decide) rfl (fun ls hl => ?_)
          refine lv_goto (tgt := 14) hx hb d_X_greatestPriority_54 (by decide) ?_
          exact ih (i + 1) ((xs_cn σ i).2.2.2.1) _ _ _ _ ls (by omega) hX hS  (by omega) (by omega) (lv_sub hl [0, 3, 4, 1, 5, 6] rfl) (by rw [← hres]; simp only [xm_great, c_3, c_4, if_true, if_false, reduceIte, Bool.false_eq_true, Bool.true_eq_false, and_true, true_and, and_false, false_and, or_true, true_or, or_false, false_or, not_true_eq_false, not_false_eq_true] <;> rfl) 
  exact loop 6 0 (-1) _ _ _ _ ls (by omega) hX hS  (by omega) (by omega) (lv_sub hl [0, 1, 2, 3, 4, 5] rfl) rfl 
set_option maxHeartbeats 4000000 in
set_option maxRecDepth 100000 in
theorem c_X_giveToAvailable (l : Launch) (g : xw_G) (B : Nat → Prop) (o lim : Nat) (σ : xs_S) (a : Nat) (z : xs_Z) : xc_V l y_X_giveToAvailable (Cond.code y_X_giveToAvailable b_X_giveToAvailable 6 none) g B o lim σ (xm_give 6 0 σ z) [.ref o, .ref a] (fun H => xw_Z g B a z H) 1 21 0 0 := by
  refine xh_V (own := R_X) (by decide) rfl (Nat.le_of_ble_eq_true rfl) ?_
  intro p e R s m below meth c ls hRf hRl hRc hRs hC hW hE hl
  obtain ⟨hx, hb, hml, hr, hown, hts, hlk⟩ := id hC
  have hX := hW.1
  have hK := hW.2.1
  have hS : va_S (xw_A o s.heap.size) s.heap s.heap [] := va_S.rf
  have hl : lv_has ls 6 [(0, .ref o), (1, .ref a)] := hl
  have hz := hE
  refine lv_aload_n hx hb d_X_giveToAvailable_0 rfl (lv_at hl 0 rfl) ?_
  obtain ⟨v9, hXo, hXl⟩ := hX.1
  refine gf_X_X_connections hx hb hts hown hK hXo rfl d_X_giveToAvailable_1 ?_
  refine lv_astore_n (lv' := [(2, .ref (o + 35)), (0, .ref o), (1, .ref a)]) hx hb d_X_giveToAvailable_4 rfl hl (by decide) rfl (fun ls hl => ?_)
  refine lv_aload_n hx hb d_X_giveToAvailable_5 rfl (lv_at hl 0 rfl) ?_
  refine xb_alen hx hb hK 1 rfl hX.2.2.1 d_X_giveToAvailable_6 ?_
  refine lv_istore_n (lv' := [(3, .int (nI 6)), (2, .ref (o + 35)), (0, .ref o), (1, .ref a)]) hx hb d_X_giveToAvailable_7 rfl hl (by decide) rfl (fun ls hl => ?_)
  refine lv_iconst (v := 0) hx hb d_X_giveToAvailable_8 (by decide) ?_
  refine lv_istore (lv' := [(4, .int 0), (3, .int (nI 6)), (2, .ref (o + 35)), (0, .ref o), (1, .ref a)]) hx hb d_X_giveToAvailable_9 hl (by decide) rfl (fun ls hl => ?_)
  have loop : ∀ (n i : Nat) (τ : xs_S) (H : Heap) (locs : List Loc) (cells slots : Nat) (ls : Array Slot), i + n = 6 → xw_R g B o τ H → va_S (xw_A o s.heap.size) s.heap H locs → xw_Z g B a z H → cells + n * 0 ≤ 0 → slots + n * 0 ≤ 0 → lv_has ls 6 [(4, .int (nI i)), (3, .int (nI 6)), (2, .ref (o + 35)), (0, .ref o), (1, .ref a)] → xm_give n i τ z = xm_give 6 0 σ z → W p l e R s m ([.ref o, .ref a] : List Value).toArray below meth c H locs cells slots (MQ below (xb_V (fun t => xw_W g B o lim (xm_give 6 0 σ z) t) (xw_A o s.heap.size)) ([.ref o, .ref a] : List Value).toArray s 0 0 (xw_A o s.heap.size)) (F0 m 11 ls []) := by
    intro n
    induction n with
    | zero =>
      intro i τ H locs cells slots ls hi hX hS hz hc hs hl hres 
      obtain rfl : i = 6 := by omega
      refine lv_iload hx hb d_X_giveToAvailable_11 (lv_at hl 0 rfl) ?_
      refine lv_iload_n hx hb d_X_giveToAvailable_13 rfl (lv_at hl 1 rfl) ?_
      refine lv_icmp_ge (tgt := 50) hx hb d_X_giveToAvailable_14 (by decide) (fun c_1 => ?_) (fun c_1 => absurd (nI_le (Nat.le_refl 6) (by decide)) c_1)
      exact xr_V (τ := xm_give 6 0 σ z) hC hW hX hS (by omega) (by omega) hres d_X_giveToAvailable_50
    | succ n ih =>
      intro i τ H locs cells slots ls hi hX hS hz hc hs hl hres 
      refine lv_iload hx hb d_X_giveToAvailable_11 (lv_at hl 0 rfl) ?_
      refine lv_iload_n hx hb d_X_giveToAvailable_13 rfl (lv_at hl 1 rfl) ?_
      refine lv_icmp_ge (tgt := 50) hx hb d_X_giveToAvailable_14 (by decide) (fun c_2 => absurd c_2 (nI_ge (show i < 6 by omega) (by decide))) (fun c_2 => ?_)
      refine lv_aload_n hx hb d_X_giveToAvailable_17 rfl (lv_at hl 2 rfl) ?_
      refine lv_iload hx hb d_X_giveToAvailable_18 (lv_at hl 0 rfl) ?_
      refine xb_aald (v := o + 36 + 3 * i) hx hb hK 1 rfl hX.2.2.1 (vp_in_nI (show i < 6 by omega) (by decide)) (by rw [nI_clamp (by omega)]) d_X_giveToAvailable_20 ?_
      refine lv_astore (lv' := [(5, .ref (o + 36 + 3 * i)), (4, .int (nI i)), (3, .int (nI 6)), (2, .ref (o + 35)), (0, .ref o), (1, .ref a)]) hx hb d_X_giveToAvailable_21 hl (by decide) rfl (fun ls hl => ?_)
      refine lv_aload hx hb d_X_giveToAvailable_23 (lv_at hl 0 rfl) ?_
      refine lv_aload_n hx hb d_X_giveToAvailable_25 rfl (lv_at hl 5 rfl) ?_
      refine gf_X_Z_to hx hb hts hown hK hz.1 rfl d_X_giveToAvailable_26 ?_
      refine xk_iQ (rest := []) (c_C_isAvailableFor l g B o lim τ i (show i < 6 by omega) z.2.2.2.2.1) gd_X_C_isAvailableFor hd_C_isAvailableFor hC hW hX hS (xb_recv hK (ci := xi_C) rfl (hX.2.2.2.2.2.1 i (show i < 6 by omega))) trivial (by omega) (by omega) (by omega) (by omega) hl.1 rfl (Nat.le_of_ble_eq_true rfl) d_X_giveToAvailable_29 (fun v8 H locs hv hX hS hF => ?_)
      have hz := hz.F hX.2.2.2.2.2.2.2.1 hF
      obtain rfl := hv
      refine lv_if_eq (tgt := 44) hx hb d_X_giveToAvailable_32 (by decide) (fun c_3 => ?_) (fun c_3 => ?_)
      · have c_3 := xs_b0 c_3
        refine lv_iinc (v := nI (i + 1)) (lv' := [(4, .int (nI (i + 1))), (5, .ref (o + 36 + 3 * i)), (3, .int (nI 6)), (2, .ref (o + 35)), (0, .ref o), (1, .ref a)]) hx hb d_X_giveToAvailable_44 hl (k := 1) rfl (nI_1 _) (by decide) rfl (fun ls hl => ?_)
        refine lv_goto (tgt := 11) hx hb d_X_giveToAvailable_47 (by decide) ?_
        exact ih (i + 1) τ _ _ _ _ ls (by omega) hX hS hz (by omega) (by omega) (lv_sub hl [0, 2, 3, 4, 5] rfl) (by rw [← hres]; simp only [xm_give, c_3, if_true, if_false, reduceIte, Bool.false_eq_true, Bool.true_eq_false, and_true, true_and, and_false, false_and, or_true, true_or, or_false, false_or, not_true_eq_false, not_false_eq_true] <;> rfl) 
      · have c_3 := xs_b1 c_3
        refine lv_aload hx hb d_X_giveToAvailable_35 (lv_at hl 0 rfl) ?_
        refine gf_X_C_inbox hx hb hts hown hK (hX.2.2.2.2.2.1 i (show i < 6 by omega)) rfl d_X_giveToAvailable_37 ?_
        refine lv_aload_n hx hb d_X_giveToAvailable_40 rfl (lv_at hl 5 rfl) ?_
        obtain ⟨f9, hq9, hl9, hz9⟩ := hX.2.2.2.2.2.2.1 (8 + i) (xs_8 (show i < 6 by omega))
        refine xk_iV (rest := []) (c_Q_add l g B o lim τ (8 + i) (xs_8 (show i < 6 by omega)) a z) gd_X_Q_add hd_Q_add hC hW hX hS (xb_recv hK (ci := xi_Q) rfl hq9.1) hz (by omega) (by omega) (by omega) (by omega) hl.1 rfl (Nat.le_of_ble_eq_true rfl) d_X_giveToAvailable_41 (fun H locs hX hS hF => ?_)
        have hz := hz.F hX.2.2.2.2.2.2.2.1 hF
        refine lv_iinc (v := nI (i + 1)) (lv' := [(4, .int (nI (i + 1))), (5, .ref (o + 36 + 3 * i)), (3, .int (nI 6)), (2, .ref (o + 35)), (0, .ref o), (1, .ref a)]) hx hb d_X_giveToAvailable_44 hl (k := 1) rfl (nI_1 _) (by decide) rfl (fun ls hl => ?_)
        refine lv_goto (tgt := 11) hx hb d_X_giveToAvailable_47 (by decide) ?_
        exact ih (i + 1) (xm_add τ (8 + i) z) _ _ _ _ ls (by omega) hX hS hz (by omega) (by omega) (lv_sub hl [0, 2, 3, 4, 5] rfl) (by rw [← hres]; simp only [xm_give, c_3, if_true, if_false, reduceIte, Bool.false_eq_true, Bool.true_eq_false, and_true, true_and, and_false, false_and, or_true, true_or, or_false, false_or, not_true_eq_false, not_false_eq_true] <;> rfl) 
  exact loop 6 0 σ _ _ _ _ ls (by omega) hX hS hz (by omega) (by omega) (lv_sub hl [0, 1, 2, 3, 4] rfl) rfl 
set_option maxHeartbeats 4000000 in
set_option maxRecDepth 100000 in
theorem c_X_giveToPriority (l : Launch) (g : xw_G) (B : Nat → Prop) (o lim : Nat) (σ : xs_S) (a : Nat) (z : xs_Z) (x : Int32) : xc_V l y_X_giveToPriority (Cond.code y_X_giveToPriority b_X_giveToPriority 7 none) g B o lim σ (xm_gp 6 0 σ z x) [.ref o, .ref a, .int x] (fun H => xw_Z g B a z H) 1 21 0 0 := by
  refine xh_V (own := R_X) (by decide) rfl (Nat.le_of_ble_eq_true rfl) ?_
  intro p e R s m below meth c ls hRf hRl hRc hRs hC hW hE hl
  obtain ⟨hx, hb, hml, hr, hown, hts, hlk⟩ := id hC
  have hX := hW.1
  have hK := hW.2.1
  have hS : va_S (xw_A o s.heap.size) s.heap s.heap [] := va_S.rf
  have hl : lv_has ls 7 [(0, .ref o), (1, .ref a), (2, .int x)] := hl
  have hz := hE
  refine lv_aload_n hx hb d_X_giveToPriority_0 rfl (lv_at hl 0 rfl) ?_
  obtain ⟨v9, hXo, hXl⟩ := hX.1
  refine gf_X_X_connections hx hb hts hown hK hXo rfl d_X_giveToPriority_1 ?_
  refine lv_astore_n (lv' := [(3, .ref (o + 35)), (0, .ref o), (1, .ref a), (2, .int x)]) hx hb d_X_giveToPriority_4 rfl hl (by decide) rfl (fun ls hl => ?_)
  refine lv_aload_n hx hb d_X_giveToPriority_5 rfl (lv_at hl 0 rfl) ?_
  refine xb_alen hx hb hK 1 rfl hX.2.2.1 d_X_giveToPriority_6 ?_
  refine lv_istore (lv' := [(4, .int (nI 6)), (3, .ref (o + 35)), (0, .ref o), (1, .ref a), (2, .int x)]) hx hb d_X_giveToPriority_7 hl (by decide) rfl (fun ls hl => ?_)
  refine lv_iconst (v := 0) hx hb d_X_giveToPriority_9 (by decide) ?_
  refine lv_istore (lv' := [(5, .int 0), (4, .int (nI 6)), (3, .ref (o + 35)), (0, .ref o), (1, .ref a), (2, .int x)]) hx hb d_X_giveToPriority_10 hl (by decide) rfl (fun ls hl => ?_)
  have loop : ∀ (n i : Nat) (τ : xs_S) (H : Heap) (locs : List Loc) (cells slots : Nat) (ls : Array Slot), i + n = 6 → xw_R g B o τ H → va_S (xw_A o s.heap.size) s.heap H locs → xw_Z g B a z H → cells + n * 0 ≤ 0 → slots + n * 0 ≤ 0 → lv_has ls 7 [(5, .int (nI i)), (4, .int (nI 6)), (3, .ref (o + 35)), (0, .ref o), (1, .ref a), (2, .int x)] → xm_gp n i τ z x = xm_gp 6 0 σ z x → W p l e R s m ([.ref o, .ref a, .int x] : List Value).toArray below meth c H locs cells slots (MQ below (xb_V (fun t => xw_W g B o lim (xm_gp 6 0 σ z x) t) (xw_A o s.heap.size)) ([.ref o, .ref a, .int x] : List Value).toArray s 0 0 (xw_A o s.heap.size)) (F0 m 12 ls []) := by
    intro n
    induction n with
    | zero =>
      intro i τ H locs cells slots ls hi hX hS hz hc hs hl hres 
      obtain rfl : i = 6 := by omega
      refine lv_iload hx hb d_X_giveToPriority_12 (lv_at hl 0 rfl) ?_
      refine lv_iload hx hb d_X_giveToPriority_14 (lv_at hl 1 rfl) ?_
      refine lv_icmp_ge (tgt := 61) hx hb d_X_giveToPriority_16 (by decide) (fun c_1 => ?_) (fun c_1 => absurd (nI_le (Nat.le_refl 6) (by decide)) c_1)
      exact xr_V (τ := xm_gp 6 0 σ z x) hC hW hX hS (by omega) (by omega) hres d_X_giveToPriority_61
    | succ n ih =>
      intro i τ H locs cells slots ls hi hX hS hz hc hs hl hres 
      refine lv_iload hx hb d_X_giveToPriority_12 (lv_at hl 0 rfl) ?_
      refine lv_iload hx hb d_X_giveToPriority_14 (lv_at hl 1 rfl) ?_
      refine lv_icmp_ge (tgt := 61) hx hb d_X_giveToPriority_16 (by decide) (fun c_2 => absurd c_2 (nI_ge (show i < 6 by omega) (by decide))) (fun c_2 => ?_)
      refine lv_aload_n hx hb d_X_giveToPriority_19 rfl (lv_at hl 2 rfl) ?_
      refine lv_iload hx hb d_X_giveToPriority_20 (lv_at hl 0 rfl) ?_
      refine xb_aald (v := o + 36 + 3 * i) hx hb hK 1 rfl hX.2.2.1 (vp_in_nI (show i < 6 by omega) (by decide)) (by rw [nI_clamp (by omega)]) d_X_giveToPriority_22 ?_
      refine lv_astore (lv' := [(6, .ref (o + 36 + 3 * i)), (5, .int (nI i)), (4, .int (nI 6)), (3, .ref (o + 35)), (0, .ref o), (1, .ref a), (2, .int x)]) hx hb d_X_giveToPriority_23 hl (by decide) rfl (fun ls hl => ?_)
      refine lv_aload hx hb d_X_giveToPriority_25 (lv_at hl 0 rfl) ?_
      refine lv_aload_n hx hb d_X_giveToPriority_27 rfl (lv_at hl 5 rfl) ?_
      refine gf_X_Z_to hx hb hts hown hK hz.1 rfl d_X_giveToPriority_28 ?_
      refine xk_iQ (rest := []) (c_C_isAvailableFor l g B o lim τ i (show i < 6 by omega) z.2.2.2.2.1) gd_X_C_isAvailableFor hd_C_isAvailableFor hC hW hX hS (xb_recv hK (ci := xi_C) rfl (hX.2.2.2.2.2.1 i (show i < 6 by omega))) trivial (by omega) (by omega) (by omega) (by omega) hl.1 rfl (Nat.le_of_ble_eq_true rfl) d_X_giveToPriority_31 (fun v8 H locs hv hX hS hF => ?_)
      have hz := hz.F hX.2.2.2.2.2.2.2.1 hF
      obtain rfl := hv
      refine lv_if_eq (tgt := 55) hx hb d_X_giveToPriority_34 (by decide) (fun c_3 => ?_) (fun c_3 => ?_)
      · have c_3 := xs_b0 c_3
        refine lv_iinc (v := nI (i + 1)) (lv' := [(5, .int (nI (i + 1))), (6, .ref (o + 36 + 3 * i)), (4, .int (nI 6)), (3, .ref (o + 35)), (0, .ref o), (1, .ref a), (2, .int x)]) hx hb d_X_giveToPriority_55 hl (k := 1) rfl (nI_1 _) (by decide) rfl (fun ls hl => ?_)
        refine lv_goto (tgt := 12) hx hb d_X_giveToPriority_58 (by decide) ?_
        exact ih (i + 1) τ _ _ _ _ ls (by omega) hX hS hz (by omega) (by omega) (lv_sub hl [0, 2, 3, 4, 5, 6] rfl) (by rw [← hres]; simp only [xm_gp, c_3, if_true, if_false, reduceIte, Bool.false_eq_true, Bool.true_eq_false, and_true, true_and, and_false, false_and, or_true, true_or, or_false, false_or, not_true_eq_false, not_false_eq_true] <;> rfl) 
      · have c_3 := xs_b1 c_3
        refine lv_aload hx hb d_X_giveToPriority_37 (lv_at hl 0 rfl) ?_
        refine gf_X_C_priority hx hb hts hown hK (hX.2.2.2.2.2.1 i (show i < 6 by omega)) rfl d_X_giveToPriority_39 ?_
        refine lv_iload_n hx hb d_X_giveToPriority_42 rfl (lv_at hl 6 rfl) ?_
        refine lv_icmp_ne (tgt := 55) hx hb d_X_giveToPriority_43 (by decide) (fun c_4 => ?_) (fun c_4 => ?_)
        · refine lv_iinc (v := nI (i + 1)) (lv' := [(5, .int (nI (i + 1))), (6, .ref (o + 36 + 3 * i)), (4, .int (nI 6)), (3, .ref (o + 35)), (0, .ref o), (1, .ref a), (2, .int x)]) hx hb d_X_giveToPriority_55 hl (k := 1) rfl (nI_1 _) (by decide) rfl (fun ls hl => ?_)
          refine lv_goto (tgt := 12) hx hb d_X_giveToPriority_58 (by decide) ?_
          exact ih (i + 1) τ _ _ _ _ ls (by omega) hX hS hz (by omega) (by omega) (lv_sub hl [0, 2, 3, 4, 5, 6] rfl) (by rw [← hres]; simp only [xm_gp, c_3, c_4, if_true, if_false, reduceIte, Bool.false_eq_true, Bool.true_eq_false, and_true, true_and, and_false, false_and, or_true, true_or, or_false, false_or, not_true_eq_false, not_false_eq_true] <;> rfl) 
        · refine lv_aload hx hb d_X_giveToPriority_46 (lv_at hl 0 rfl) ?_
          refine gf_X_C_inbox hx hb hts hown hK (hX.2.2.2.2.2.1 i (show i < 6 by omega)) rfl d_X_giveToPriority_48 ?_
          refine lv_aload_n hx hb d_X_giveToPriority_51 rfl (lv_at hl 5 rfl) ?_
          obtain ⟨f9, hq9, hl9, hz9⟩ := hX.2.2.2.2.2.2.1 (8 + i) (xs_8 (show i < 6 by omega))
          refine xk_iV (rest := []) (c_Q_add l g B o lim τ (8 + i) (xs_8 (show i < 6 by omega)) a z) gd_X_Q_add hd_Q_add hC hW hX hS (xb_recv hK (ci := xi_Q) rfl hq9.1) hz (by omega) (by omega) (by omega) (by omega) hl.1 rfl (Nat.le_of_ble_eq_true rfl) d_X_giveToPriority_52 (fun H locs hX hS hF => ?_)
          have hz := hz.F hX.2.2.2.2.2.2.2.1 hF
          refine lv_iinc (v := nI (i + 1)) (lv' := [(5, .int (nI (i + 1))), (6, .ref (o + 36 + 3 * i)), (4, .int (nI 6)), (3, .ref (o + 35)), (0, .ref o), (1, .ref a), (2, .int x)]) hx hb d_X_giveToPriority_55 hl (k := 1) rfl (nI_1 _) (by decide) rfl (fun ls hl => ?_)
          refine lv_goto (tgt := 12) hx hb d_X_giveToPriority_58 (by decide) ?_
          exact ih (i + 1) (xm_add τ (8 + i) z) _ _ _ _ ls (by omega) hX hS hz (by omega) (by omega) (lv_sub hl [0, 2, 3, 4, 5, 6] rfl) (by rw [← hres]; simp only [xm_gp, c_3, c_4, if_true, if_false, reduceIte, Bool.false_eq_true, Bool.true_eq_false, and_true, true_and, and_false, false_and, or_true, true_or, or_false, false_or, not_true_eq_false, not_false_eq_true] <;> rfl) 
  exact loop 6 0 σ _ _ _ _ ls (by omega) hX hS hz (by omega) (by omega) (lv_sub hl [0, 1, 2, 3, 4, 5] rfl) rfl 
set_option maxHeartbeats 4000000 in
set_option maxRecDepth 100000 in
theorem c_X_returnError (l : Launch) (g : xw_G) (B : Nat → Prop) (o lim : Nat) (σ : xs_S) (a : Nat) (z : xs_Z) : xc_V l y_X_returnError (Cond.code y_X_returnError b_X_returnError 2 none) g B o lim σ (xm_err σ z) [.ref o, .ref a] (fun H => xw_Z g B a z H) 2 46 1 6 := by
  refine xh_V (own := R_X) (by decide) rfl (Nat.le_of_ble_eq_true rfl) ?_
  intro p e R s m below meth c ls hRf hRl hRc hRs hC hW hE hl
  obtain ⟨hx, hb, hml, hr, hown, hts, hlk⟩ := id hC
  have hX := hW.1
  have hK := hW.2.1
  have hS : va_S (xw_A o s.heap.size) s.heap s.heap [] := va_S.rf
  have hl : lv_has ls 2 [(0, .ref o), (1, .ref a)] := hl
  have hz := hE
  refine lv_aload_n hx hb d_X_returnError_0 rfl (lv_at hl 0 rfl) ?_
  refine nw_X_Z hx hb hts hown hK hX hS (by omega) (by omega) d_X_returnError_1 (fun a9 H9 hn9 hb9 hsz9 hX9 hS9 hF9 => ?_)
  have nhz := hz.F (fun _ q => q.elim) hF9
  have hX0 := hX
  have hX := hX9
  refine lv_dup hx hb d_X_returnError_4 rfl ?_
  refine lv_bipush (v := 8) hx hb d_X_returnError_5 (by decide) ?_
  refine lv_aload_n hx hb d_X_returnError_7 rfl (lv_at hl 1 rfl) ?_
  refine gf_X_Z_to hx hb hts hown hK nhz.1 rfl d_X_returnError_8 ?_
  refine lv_iconst (v := (-1)) hx hb d_X_returnError_11 (by decide) ?_
  refine lv_aload_n hx hb d_X_returnError_12 rfl (lv_at hl 1 rfl) ?_
  refine gf_X_Z_value hx hb hts hown hK nhz.1 rfl d_X_returnError_13 ?_
  refine lv_aload_n hx hb d_X_returnError_16 rfl (lv_at hl 1 rfl) ?_
  refine gf_X_Z_from hx hb hts hown hK nhz.1 rfl d_X_returnError_17 ?_
  refine lv_iconst (v := (-1)) hx hb d_X_returnError_20 (by decide) ?_
  refine in_X_Z (rest := [.ref a9, .ref o]) hC hW hX0 hX9 hS9 hF9 hn9 hb9 hsz9 (by omega) (by omega) (by omega) (by omega) hl.1 rfl (Nat.le_of_ble_eq_true rfl) d_X_returnError_21 (fun H locs hzn hX hS hF => ?_)
  have hz_1 := hzn
  have hz := hz.F (fun _ q => q.elim) hF
  obtain ⟨v9, hXo, hXl⟩ := hX.1
  refine xk_iV (rest := []) (c_X_giveToAvailable l g B o lim σ a9 (8, z.2.2.2.2.1, (-1), z.2.2.2.1, z.2.1, (-1))) gd_X_X_giveToAvailable hd_X_giveToAvailable hC hW hX hS (xb_recv hK (ci := xi_X) rfl hXo) hz_1 (by omega) (by omega) (by omega) (by omega) hl.1 rfl (Nat.le_of_ble_eq_true rfl) d_X_returnError_24 (fun H locs hX hS hF => ?_)
  have hz := hz.F hX.2.2.2.2.2.2.2.1 hF
  have hz_1 := hz_1.F hX.2.2.2.2.2.2.2.1 hF
  exact xr_V (τ := xm_err σ z) hC hW hX hS (by omega) (by omega) rfl d_X_returnError_27
set_option maxHeartbeats 4000000 in
set_option maxRecDepth 100000 in
theorem c_X_grantArrives (l : Launch) (g : xw_G) (B : Nat → Prop) (o lim : Nat) (σ : xs_S) (a : Nat) (z : xs_Z) (hok : xm_ok z) : xc_V l y_X_grantArrives (Cond.code y_X_grantArrives b_X_grantArrives 3 none) g B o lim σ (xm_grant σ z) [.ref o, .ref a] (fun H => xw_Z g B a z H) 2 46 0 0 := by
  refine xh_V (own := R_X) (by decide) rfl (Nat.le_of_ble_eq_true rfl) ?_
  intro p e R s m below meth c ls hRf hRl hRc hRs hC hW hE hl
  obtain ⟨hx, hb, hml, hr, hown, hts, hlk⟩ := id hC
  have hX := hW.1
  have hK := hW.2.1
  have hS : va_S (xw_A o s.heap.size) s.heap s.heap [] := va_S.rf
  have hl : lv_has ls 3 [(0, .ref o), (1, .ref a)] := hl
  have hz := hE
  refine lv_aload_n hx hb d_X_grantArrives_0 rfl (lv_at hl 0 rfl) ?_
  obtain ⟨v9, hXo, hXl⟩ := hX.1
  refine gf_X_X_accounts hx hb hts hown hK hXo rfl d_X_grantArrives_1 ?_
  refine lv_aload_n hx hb d_X_grantArrives_4 rfl (lv_at hl 1 rfl) ?_
  refine gf_X_Z_to hx hb hts hown hK hz.1 rfl d_X_grantArrives_5 ?_
  refine xb_aald (v := o + 3 + 4 * (xs_ix z.2.2.2.2.1)) hx hb hK 0 rfl hX.2.1 hok.2 rfl d_X_grantArrives_8 ?_
  refine lv_astore_n (lv' := [(2, .ref (o + 3 + 4 * (xs_ix z.2.2.2.2.1))), (0, .ref o), (1, .ref a)]) hx hb d_X_grantArrives_9 rfl hl (by decide) rfl (fun ls hl => ?_)
  refine lv_aload_n hx hb d_X_grantArrives_10 rfl (lv_at hl 0 rfl) ?_
  refine lv_aload_n hx hb d_X_grantArrives_11 rfl (lv_at hl 2 rfl) ?_
  refine gf_X_Z_from hx hb hts hown hK hz.1 rfl d_X_grantArrives_12 ?_
  refine lv_iconst (v := 4) hx hb d_X_grantArrives_15 (by decide) ?_
  refine xk_iQ (rest := []) (c_A_hasAny l g B o lim σ (xs_ix z.2.2.2.2.1) (xs_ixl hok.2) z.2.1 (xs_ix z.2.1) hok.1 rfl 4) gd_X_A_hasAny hd_A_hasAny hC hW hX hS (xb_recv hK (ci := xi_A) rfl (hX.2.2.2.1 (xs_ix z.2.2.2.2.1) (xs_ixl hok.2))) trivial (by omega) (by omega) (by omega) (by omega) hl.1 rfl (Nat.le_of_ble_eq_true rfl) d_X_grantArrives_16 (fun v8 H locs hv hX hS hF => ?_)
  have hz := hz.F hX.2.2.2.2.2.2.2.1 hF
  obtain rfl := hv
  refine lv_if_eq (tgt := 45) hx hb d_X_grantArrives_19 (by decide) (fun c_1 => ?_) (fun c_1 => ?_)
  · have c_1 := xs_b0 c_1
    exact xr_V (τ := xm_grant σ z) hC hW hX hS (by omega) (by omega) (by simp only [xm_grant, c_1, if_true, if_false, reduceIte, Bool.false_eq_true, Bool.true_eq_false, and_true, true_and, and_false, false_and, or_true, true_or, or_false, false_or, not_true_eq_false, not_false_eq_true] <;> rfl) d_X_grantArrives_45
  · have c_1 := xs_b1 c_1
    refine lv_aload_n hx hb d_X_grantArrives_22 rfl (lv_at hl 0 rfl) ?_
    refine lv_aload_n hx hb d_X_grantArrives_23 rfl (lv_at hl 2 rfl) ?_
    refine gf_X_Z_from hx hb hts hown hK hz.1 rfl d_X_grantArrives_24 ?_
    refine lv_iconst (v := 1) hx hb d_X_grantArrives_27 (by decide) ?_
    refine xk_iV (rest := []) (c_A_addMark l g B o lim σ (xs_ix z.2.2.2.2.1) (xs_ixl hok.2) z.2.1 (xs_ix z.2.1) hok.1 rfl 1) gd_X_A_addMark hd_A_addMark hC hW hX hS (xb_recv hK (ci := xi_A) rfl (hX.2.2.2.1 (xs_ix z.2.2.2.2.1) (xs_ixl hok.2))) trivial (by omega) (by omega) (by omega) (by omega) hl.1 rfl (Nat.le_of_ble_eq_true rfl) d_X_grantArrives_28 (fun H locs hX hS hF => ?_)
    have hz := hz.F hX.2.2.2.2.2.2.2.1 hF
    refine lv_aload_n hx hb d_X_grantArrives_31 rfl (lv_at hl 0 rfl) ?_
    refine lv_aload_n hx hb d_X_grantArrives_32 rfl (lv_at hl 2 rfl) ?_
    refine gf_X_Z_from hx hb hts hown hK hz.1 rfl d_X_grantArrives_33 ?_
    refine lv_iconst (v := 4) hx hb d_X_grantArrives_36 (by decide) ?_
    refine xk_iV (rest := []) (c_A_dropMarks l g B o lim (xm_mark σ (xs_ix z.2.2.2.2.1) (xs_ix z.2.1) 1) (xs_ix z.2.2.2.2.1) (xs_ixl hok.2) z.2.1 (xs_ix z.2.1) hok.1 rfl 4) gd_X_A_dropMarks hd_A_dropMarks hC hW hX hS (xb_recv hK (ci := xi_A) rfl (hX.2.2.2.1 (xs_ix z.2.2.2.2.1) (xs_ixl hok.2))) trivial (by omega) (by omega) (by omega) (by omega) hl.1 rfl (Nat.le_of_ble_eq_true rfl) d_X_grantArrives_37 (fun H locs hX hS hF => ?_)
    have hz := hz.F hX.2.2.2.2.2.2.2.1 hF
    refine lv_aload_n hx hb d_X_grantArrives_40 rfl (lv_at hl 1 rfl) ?_
    refine lv_aload_n hx hb d_X_grantArrives_41 rfl (lv_at hl 2 rfl) ?_
    obtain ⟨v9, hXo, hXl⟩ := hX.1
    refine xk_iV (rest := []) (c_X_giveToAvailable l g B o lim (xm_drop (xm_mark σ (xs_ix z.2.2.2.2.1) (xs_ix z.2.1) 1) (xs_ix z.2.2.2.2.1) (xs_ix z.2.1) 4) a z) gd_X_X_giveToAvailable hd_X_giveToAvailable hC hW hX hS (xb_recv hK (ci := xi_X) rfl hXo) hz (by omega) (by omega) (by omega) (by omega) hl.1 rfl (Nat.le_of_ble_eq_true rfl) d_X_grantArrives_42 (fun H locs hX hS hF => ?_)
    have hz := hz.F hX.2.2.2.2.2.2.2.1 hF
    exact xr_V (τ := xm_grant σ z) hC hW hX hS (by omega) (by omega) (by simp only [xm_grant, c_1, if_true, if_false, reduceIte, Bool.false_eq_true, Bool.true_eq_false, and_true, true_and, and_false, false_and, or_true, true_or, or_false, false_or, not_true_eq_false, not_false_eq_true] <;> rfl) d_X_grantArrives_45
set_option maxHeartbeats 4000000 in
set_option maxRecDepth 100000 in
theorem c_X_endingArrives (l : Launch) (g : xw_G) (B : Nat → Prop) (o lim : Nat) (σ : xs_S) (a : Nat) (z : xs_Z) (x : Int32) (hok : xm_ok z) : xc_V l y_X_endingArrives (Cond.code y_X_endingArrives b_X_endingArrives 4 none) g B o lim σ (xm_end σ z x) [.ref o, .ref a, .int x] (fun H => xw_Z g B a z H) 2 46 0 0 := by
  refine xh_V (own := R_X) (by decide) rfl (Nat.le_of_ble_eq_true rfl) ?_
  intro p e R s m below meth c ls hRf hRl hRc hRs hC hW hE hl
  obtain ⟨hx, hb, hml, hr, hown, hts, hlk⟩ := id hC
  have hX := hW.1
  have hK := hW.2.1
  have hS : va_S (xw_A o s.heap.size) s.heap s.heap [] := va_S.rf
  have hl : lv_has ls 4 [(0, .ref o), (1, .ref a), (2, .int x)] := hl
  have hz := hE
  refine lv_aload_n hx hb d_X_endingArrives_0 rfl (lv_at hl 0 rfl) ?_
  obtain ⟨v9, hXo, hXl⟩ := hX.1
  refine gf_X_X_accounts hx hb hts hown hK hXo rfl d_X_endingArrives_1 ?_
  refine lv_aload_n hx hb d_X_endingArrives_4 rfl (lv_at hl 1 rfl) ?_
  refine gf_X_Z_to hx hb hts hown hK hz.1 rfl d_X_endingArrives_5 ?_
  refine xb_aald (v := o + 3 + 4 * (xs_ix z.2.2.2.2.1)) hx hb hK 0 rfl hX.2.1 hok.2 rfl d_X_endingArrives_8 ?_
  refine lv_astore_n (lv' := [(3, .ref (o + 3 + 4 * (xs_ix z.2.2.2.2.1))), (0, .ref o), (1, .ref a), (2, .int x)]) hx hb d_X_endingArrives_9 rfl hl (by decide) rfl (fun ls hl => ?_)
  refine lv_aload_n hx hb d_X_endingArrives_10 rfl (lv_at hl 0 rfl) ?_
  refine lv_aload_n hx hb d_X_endingArrives_11 rfl (lv_at hl 2 rfl) ?_
  refine gf_X_Z_from hx hb hts hown hK hz.1 rfl d_X_endingArrives_12 ?_
  refine lv_iload_n hx hb d_X_endingArrives_15 rfl (lv_at hl 3 rfl) ?_
  refine xk_iQ (rest := []) (c_A_hasAny l g B o lim σ (xs_ix z.2.2.2.2.1) (xs_ixl hok.2) z.2.1 (xs_ix z.2.1) hok.1 rfl x) gd_X_A_hasAny hd_A_hasAny hC hW hX hS (xb_recv hK (ci := xi_A) rfl (hX.2.2.2.1 (xs_ix z.2.2.2.2.1) (xs_ixl hok.2))) trivial (by omega) (by omega) (by omega) (by omega) hl.1 rfl (Nat.le_of_ble_eq_true rfl) d_X_endingArrives_16 (fun v8 H locs hv hX hS hF => ?_)
  have hz := hz.F hX.2.2.2.2.2.2.2.1 hF
  obtain rfl := hv
  refine lv_if_eq (tgt := 36) hx hb d_X_endingArrives_19 (by decide) (fun c_1 => ?_) (fun c_1 => ?_)
  · have c_1 := xs_b0 c_1
    exact xr_V (τ := xm_end σ z x) hC hW hX hS (by omega) (by omega) (by simp only [xm_end, c_1, if_true, if_false, reduceIte, Bool.false_eq_true, Bool.true_eq_false, and_true, true_and, and_false, false_and, or_true, true_or, or_false, false_or, not_true_eq_false, not_false_eq_true] <;> rfl) d_X_endingArrives_36
  · have c_1 := xs_b1 c_1
    refine lv_aload_n hx hb d_X_endingArrives_22 rfl (lv_at hl 0 rfl) ?_
    refine lv_aload_n hx hb d_X_endingArrives_23 rfl (lv_at hl 2 rfl) ?_
    refine gf_X_Z_from hx hb hts hown hK hz.1 rfl d_X_endingArrives_24 ?_
    refine lv_iload_n hx hb d_X_endingArrives_27 rfl (lv_at hl 3 rfl) ?_
    refine xk_iV (rest := []) (c_A_dropMarks l g B o lim σ (xs_ix z.2.2.2.2.1) (xs_ixl hok.2) z.2.1 (xs_ix z.2.1) hok.1 rfl x) gd_X_A_dropMarks hd_A_dropMarks hC hW hX hS (xb_recv hK (ci := xi_A) rfl (hX.2.2.2.1 (xs_ix z.2.2.2.2.1) (xs_ixl hok.2))) trivial (by omega) (by omega) (by omega) (by omega) hl.1 rfl (Nat.le_of_ble_eq_true rfl) d_X_endingArrives_28 (fun H locs hX hS hF => ?_)
    have hz := hz.F hX.2.2.2.2.2.2.2.1 hF
    refine lv_aload_n hx hb d_X_endingArrives_31 rfl (lv_at hl 1 rfl) ?_
    refine lv_aload_n hx hb d_X_endingArrives_32 rfl (lv_at hl 2 rfl) ?_
    obtain ⟨v9, hXo, hXl⟩ := hX.1
    refine xk_iV (rest := []) (c_X_giveToAvailable l g B o lim (xm_drop σ (xs_ix z.2.2.2.2.1) (xs_ix z.2.1) x) a z) gd_X_X_giveToAvailable hd_X_giveToAvailable hC hW hX hS (xb_recv hK (ci := xi_X) rfl hXo) hz (by omega) (by omega) (by omega) (by omega) hl.1 rfl (Nat.le_of_ble_eq_true rfl) d_X_endingArrives_33 (fun H locs hX hS hF => ?_)
    have hz := hz.F hX.2.2.2.2.2.2.2.1 hF
    exact xr_V (τ := xm_end σ z x) hC hW hX hS (by omega) (by omega) (by simp only [xm_end, c_1, if_true, if_false, reduceIte, Bool.false_eq_true, Bool.true_eq_false, and_true, true_and, and_false, false_and, or_true, true_or, or_false, false_or, not_true_eq_false, not_false_eq_true] <;> rfl) d_X_endingArrives_36
set_option maxHeartbeats 4000000 in
set_option maxRecDepth 100000 in
theorem c_X_askArrives (l : Launch) (g : xw_G) (B : Nat → Prop) (o lim : Nat) (σ : xs_S) (a : Nat) (z : xs_Z) (hok : xm_ok z) : xc_V l y_X_askArrives (Cond.code y_X_askArrives b_X_askArrives 3 none) g B o lim σ (xm_ask σ z) [.ref o, .ref a] (fun H => xw_Z g B a z H) 3 68 1 6 := by
  refine xh_V (own := R_X) (by decide) rfl (Nat.le_of_ble_eq_true rfl) ?_
  intro p e R s m below meth c ls hRf hRl hRc hRs hC hW hE hl
  obtain ⟨hx, hb, hml, hr, hown, hts, hlk⟩ := id hC
  have hX := hW.1
  have hK := hW.2.1
  have hS : va_S (xw_A o s.heap.size) s.heap s.heap [] := va_S.rf
  have hl : lv_has ls 3 [(0, .ref o), (1, .ref a)] := hl
  have hz := hE
  refine lv_aload_n hx hb d_X_askArrives_0 rfl (lv_at hl 0 rfl) ?_
  obtain ⟨v9, hXo, hXl⟩ := hX.1
  refine gf_X_X_accounts hx hb hts hown hK hXo rfl d_X_askArrives_1 ?_
  refine lv_aload_n hx hb d_X_askArrives_4 rfl (lv_at hl 1 rfl) ?_
  refine gf_X_Z_to hx hb hts hown hK hz.1 rfl d_X_askArrives_5 ?_
  refine xb_aald (v := o + 3 + 4 * (xs_ix z.2.2.2.2.1)) hx hb hK 0 rfl hX.2.1 hok.2 rfl d_X_askArrives_8 ?_
  refine lv_astore_n (lv' := [(2, .ref (o + 3 + 4 * (xs_ix z.2.2.2.2.1))), (0, .ref o), (1, .ref a)]) hx hb d_X_askArrives_9 rfl hl (by decide) rfl (fun ls hl => ?_)
  refine lv_aload_n hx hb d_X_askArrives_10 rfl (lv_at hl 0 rfl) ?_
  refine lv_aload_n hx hb d_X_askArrives_11 rfl (lv_at hl 2 rfl) ?_
  refine gf_X_Z_from hx hb hts hown hK hz.1 rfl d_X_askArrives_12 ?_
  refine lv_iconst (v := 2) hx hb d_X_askArrives_15 (by decide) ?_
  refine xk_iQ (rest := []) (c_A_hasAny l g B o lim σ (xs_ix z.2.2.2.2.1) (xs_ixl hok.2) z.2.1 (xs_ix z.2.1) hok.1 rfl 2) gd_X_A_hasAny hd_A_hasAny hC hW hX hS (xb_recv hK (ci := xi_A) rfl (hX.2.2.2.1 (xs_ix z.2.2.2.2.1) (xs_ixl hok.2))) trivial (by omega) (by omega) (by omega) (by omega) hl.1 rfl (Nat.le_of_ble_eq_true rfl) d_X_askArrives_16 (fun v8 H locs hv hX hS hF => ?_)
  have hz := hz.F hX.2.2.2.2.2.2.2.1 hF
  obtain rfl := hv
  refine lv_if_eq (tgt := 48) hx hb d_X_askArrives_19 (by decide) (fun c_1 => ?_) (fun c_1 => ?_)
  · have c_1 := xs_b0 c_1
    refine lv_aload_n hx hb d_X_askArrives_48 rfl (lv_at hl 0 rfl) ?_
    refine gf_X_A_registered hx hb hts hown hK (hX.2.2.2.1 (xs_ix z.2.2.2.2.1) (xs_ixl hok.2)) rfl d_X_askArrives_49 ?_
    refine lv_if_eq (tgt := 70) hx hb d_X_askArrives_52 (by decide) (fun c_2 => ?_) (fun c_2 => ?_)
    · have c_2 := xs_b0 c_2
      exact xr_V (τ := xm_ask σ z) hC hW hX hS (by omega) (by omega) (by simp only [xm_ask, c_1, c_2, if_true, if_false, reduceIte, Bool.false_eq_true, Bool.true_eq_false, and_true, true_and, and_false, false_and, or_true, true_or, or_false, false_or, not_true_eq_false, not_false_eq_true] <;> rfl) d_X_askArrives_70
    · have c_2 := xs_b1 c_2
      refine lv_aload_n hx hb d_X_askArrives_55 rfl (lv_at hl 0 rfl) ?_
      refine lv_aload_n hx hb d_X_askArrives_56 rfl (lv_at hl 2 rfl) ?_
      refine gf_X_Z_from hx hb hts hown hK hz.1 rfl d_X_askArrives_57 ?_
      refine lv_bipush (v := 8) hx hb d_X_askArrives_60 (by decide) ?_
      refine xk_iV (rest := []) (c_A_addMark l g B o lim σ (xs_ix z.2.2.2.2.1) (xs_ixl hok.2) z.2.1 (xs_ix z.2.1) hok.1 rfl 8) gd_X_A_addMark hd_A_addMark hC hW hX hS (xb_recv hK (ci := xi_A) rfl (hX.2.2.2.1 (xs_ix z.2.2.2.2.1) (xs_ixl hok.2))) trivial (by omega) (by omega) (by omega) (by omega) hl.1 rfl (Nat.le_of_ble_eq_true rfl) d_X_askArrives_62 (fun H locs hX hS hF => ?_)
      have hz := hz.F hX.2.2.2.2.2.2.2.1 hF
      refine lv_aload_n hx hb d_X_askArrives_65 rfl (lv_at hl 1 rfl) ?_
      refine lv_aload_n hx hb d_X_askArrives_66 rfl (lv_at hl 2 rfl) ?_
      obtain ⟨v9, hXo, hXl⟩ := hX.1
      refine xk_iV (rest := []) (c_X_giveToAvailable l g B o lim (xm_mark σ (xs_ix z.2.2.2.2.1) (xs_ix z.2.1) 8) a z) gd_X_X_giveToAvailable hd_X_giveToAvailable hC hW hX hS (xb_recv hK (ci := xi_X) rfl hXo) hz (by omega) (by omega) (by omega) (by omega) hl.1 rfl (Nat.le_of_ble_eq_true rfl) d_X_askArrives_67 (fun H locs hX hS hF => ?_)
      have hz := hz.F hX.2.2.2.2.2.2.2.1 hF
      exact xr_V (τ := xm_ask σ z) hC hW hX hS (by omega) (by omega) (by simp only [xm_ask, c_1, c_2, if_true, if_false, reduceIte, Bool.false_eq_true, Bool.true_eq_false, and_true, true_and, and_false, false_and, or_true, true_or, or_false, false_or, not_true_eq_false, not_false_eq_true] <;> rfl) d_X_askArrives_70
  · have c_1 := xs_b1 c_1
    refine lv_aload_n hx hb d_X_askArrives_22 rfl (lv_at hl 1 rfl) ?_
    refine nw_X_Z hx hb hts hown hK hX hS (by omega) (by omega) d_X_askArrives_23 (fun a9 H9 hn9 hb9 hsz9 hX9 hS9 hF9 => ?_)
    have nhz := hz.F (fun _ q => q.elim) hF9
    have hX0 := hX
    have hX := hX9
    refine lv_dup hx hb d_X_askArrives_26 rfl ?_
    refine lv_iconst (v := 5) hx hb d_X_askArrives_27 (by decide) ?_
    refine lv_aload_n hx hb d_X_askArrives_28 rfl (lv_at hl 2 rfl) ?_
    refine gf_X_Z_to hx hb hts hown hK nhz.1 rfl d_X_askArrives_29 ?_
    refine lv_iconst (v := (-1)) hx hb d_X_askArrives_32 (by decide) ?_
    refine lv_iconst (v := 0) hx hb d_X_askArrives_33 (by decide) ?_
    refine lv_aload_n hx hb d_X_askArrives_34 rfl (lv_at hl 2 rfl) ?_
    refine gf_X_Z_from hx hb hts hown hK nhz.1 rfl d_X_askArrives_35 ?_
    refine lv_iconst (v := (-1)) hx hb d_X_askArrives_38 (by decide) ?_
    refine in_X_Z (rest := [.ref a9, .ref o]) hC hW hX0 hX9 hS9 hF9 hn9 hb9 hsz9 (by omega) (by omega) (by omega) (by omega) hl.1 rfl (Nat.le_of_ble_eq_true rfl) d_X_askArrives_39 (fun H locs hzn hX hS hF => ?_)
    have hz_3 := hzn
    have hz := hz.F (fun _ q => q.elim) hF
    obtain ⟨v9, hXo, hXl⟩ := hX.1
    refine xk_iV (rest := []) (c_X_grantArrives l g B o lim σ a9 (5, z.2.2.2.2.1, (-1), 0, z.2.1, (-1)) ⟨hok.2, hok.1⟩) gd_X_X_grantArrives hd_X_grantArrives hC hW hX hS (xb_recv hK (ci := xi_X) rfl hXo) hz_3 (by omega) (by omega) (by omega) (by omega) hl.1 rfl (Nat.le_of_ble_eq_true rfl) d_X_askArrives_42 (fun H locs hX hS hF => ?_)
    have hz := hz.F hX.2.2.2.2.2.2.2.1 hF
    have hz_3 := hz_3.F hX.2.2.2.2.2.2.2.1 hF
    refine lv_goto (tgt := 70) hx hb d_X_askArrives_45 (by decide) ?_
    exact xr_V (τ := xm_ask σ z) hC hW hX hS (by omega) (by omega) (by simp only [xm_ask, c_1, if_true, if_false, reduceIte, Bool.false_eq_true, Bool.true_eq_false, and_true, true_and, and_false, false_and, or_true, true_or, or_false, false_or, not_true_eq_false, not_false_eq_true] <;> rfl) d_X_askArrives_70
set_option maxHeartbeats 4000000 in
set_option maxRecDepth 100000 in
theorem c_X_messageArrives (l : Launch) (g : xw_G) (B : Nat → Prop) (o lim : Nat) (σ : xs_S) (a : Nat) (z : xs_Z) (hok : xm_ok z) : xc_V l y_X_messageArrives (Cond.code y_X_messageArrives b_X_messageArrives 5 none) g B o lim σ (xm_msg σ z) [.ref o, .ref a] (fun H => xw_Z g B a z H) 3 67 1 6 := by
  refine xh_V (own := R_X) (by decide) rfl (Nat.le_of_ble_eq_true rfl) ?_
  intro p e R s m below meth c ls hRf hRl hRc hRs hC hW hE hl
  obtain ⟨hx, hb, hml, hr, hown, hts, hlk⟩ := id hC
  have hX := hW.1
  have hK := hW.2.1
  have hS : va_S (xw_A o s.heap.size) s.heap s.heap [] := va_S.rf
  have hl : lv_has ls 5 [(0, .ref o), (1, .ref a)] := hl
  have hz := hE
  refine lv_aload_n hx hb d_X_messageArrives_0 rfl (lv_at hl 0 rfl) ?_
  refine lv_aload_n hx hb d_X_messageArrives_1 rfl (lv_at hl 1 rfl) ?_
  refine gf_X_Z_to hx hb hts hown hK hz.1 rfl d_X_messageArrives_2 ?_
  refine lv_aload_n hx hb d_X_messageArrives_5 rfl (lv_at hl 1 rfl) ?_
  refine gf_X_Z_target hx hb hts hown hK hz.1 rfl d_X_messageArrives_6 ?_
  obtain ⟨v9, hXo, hXl⟩ := hX.1
  refine xk_iQ (rest := []) (c_X_boundWith l g B o lim σ z.2.2.2.2.1 z.2.2.2.2.2) gd_X_X_boundWith hd_X_boundWith hC hW hX hS (xb_recv hK (ci := xi_X) rfl hXo) trivial (by omega) (by omega) (by omega) (by omega) hl.1 rfl (Nat.le_of_ble_eq_true rfl) d_X_messageArrives_9 (fun v8 H locs hv hX hS hF => ?_)
  have hz := hz.F hX.2.2.2.2.2.2.2.1 hF
  cases hbw : xm_bw 6 0 σ z.2.2.2.2.1 z.2.2.2.2.2 with
  | none =>
    rw [hbw] at hv
    obtain rfl : v8 = .null := hv
    refine lv_astore_nN (lv' := [(2, .null), (0, .ref o), (1, .ref a)]) hx hb d_X_messageArrives_12 rfl hl (by decide) rfl (fun ls hl => ?_)
    refine lv_aload_nN hx hb d_X_messageArrives_13 rfl (lv_at hl 0 rfl) ?_
    refine lv_ifnullN (tgt := 33) hx hb d_X_messageArrives_14 (by decide) ?_
    refine lv_aload_n hx hb d_X_messageArrives_33 rfl (lv_at hl 1 rfl) ?_
    refine lv_aload_n hx hb d_X_messageArrives_34 rfl (lv_at hl 2 rfl) ?_
    refine gf_X_Z_to hx hb hts hown hK hz.1 rfl d_X_messageArrives_35 ?_
    obtain ⟨v9, hXo, hXl⟩ := hX.1
    refine xk_iQ (rest := []) (c_X_greatestPriority l g B o lim σ z.2.2.2.2.1) gd_X_X_greatestPriority hd_X_greatestPriority hC hW hX hS (xb_recv hK (ci := xi_X) rfl hXo) trivial (by omega) (by omega) (by omega) (by omega) hl.1 rfl (Nat.le_of_ble_eq_true rfl) d_X_messageArrives_38 (fun v8 H locs hv hX hS hF => ?_)
    have hz := hz.F hX.2.2.2.2.2.2.2.1 hF
    obtain rfl := hv
    refine lv_istore_n (lv' := [(3, .int (xm_great 6 0 σ z.2.2.2.2.1 (-1))), (2, .null), (0, .ref o), (1, .ref a)]) hx hb d_X_messageArrives_41 rfl hl (by decide) rfl (fun ls hl => ?_)
    refine lv_aload_n hx hb d_X_messageArrives_42 rfl (lv_at hl 2 rfl) ?_
    obtain ⟨v9, hXo, hXl⟩ := hX.1
    refine gf_X_X_accounts hx hb hts hown hK hXo rfl d_X_messageArrives_43 ?_
    refine lv_aload_n hx hb d_X_messageArrives_46 rfl (lv_at hl 3 rfl) ?_
    refine gf_X_Z_to hx hb hts hown hK hz.1 rfl d_X_messageArrives_47 ?_
    refine xb_aald (v := o + 3 + 4 * (xs_ix z.2.2.2.2.1)) hx hb hK 0 rfl hX.2.1 hok.2 rfl d_X_messageArrives_50 ?_
    refine lv_astore (lv' := [(4, .ref (o + 3 + 4 * (xs_ix z.2.2.2.2.1))), (3, .int (xm_great 6 0 σ z.2.2.2.2.1 (-1))), (2, .null), (0, .ref o), (1, .ref a)]) hx hb d_X_messageArrives_51 hl (by decide) rfl (fun ls hl => ?_)
    refine lv_iload_n hx hb d_X_messageArrives_53 rfl (lv_at hl 1 rfl) ?_
    refine lv_if_lt (tgt := 66) hx hb d_X_messageArrives_54 (by decide) (fun c_1 => ?_) (fun c_1 => ?_)
    · refine lv_aload hx hb d_X_messageArrives_66 (lv_at hl 0 rfl) ?_
      refine gf_X_A_registered hx hb hts hown hK (hX.2.2.2.1 (xs_ix z.2.2.2.2.1) (xs_ixl hok.2)) rfl d_X_messageArrives_68 ?_
      refine lv_if_eq (tgt := 97) hx hb d_X_messageArrives_71 (by decide) (fun c_2 => ?_) (fun c_2 => ?_)
      · have c_2 := xs_b0 c_2
        refine lv_aload_n hx hb d_X_messageArrives_97 rfl (lv_at hl 3 rfl) ?_
        refine lv_aload_n hx hb d_X_messageArrives_98 rfl (lv_at hl 4 rfl) ?_
        obtain ⟨v9, hXo, hXl⟩ := hX.1
        refine xk_iV (rest := []) (c_X_returnError l g B o lim σ a z) gd_X_X_returnError hd_X_returnError hC hW hX hS (xb_recv hK (ci := xi_X) rfl hXo) hz (by omega) (by omega) (by omega) (by omega) hl.1 rfl (Nat.le_of_ble_eq_true rfl) d_X_messageArrives_99 (fun H locs hX hS hF => ?_)
        have hz := hz.F hX.2.2.2.2.2.2.2.1 hF
        exact xr_V (τ := xm_msg σ z) hC hW hX hS (by omega) (by omega) (by simp only [xm_msg, xm_msg2, hbw, c_1, c_2, if_true, if_false, reduceIte, Bool.false_eq_true, Bool.true_eq_false, and_true, true_and, and_false, false_and, or_true, true_or, or_false, false_or, not_true_eq_false, not_false_eq_true] <;> rfl) d_X_messageArrives_102
      · have c_2 := xs_b1 c_2
        refine lv_aload hx hb d_X_messageArrives_74 (lv_at hl 0 rfl) ?_
        refine gf_X_A_kept hx hb hts hown hK (hX.2.2.2.1 (xs_ix z.2.2.2.2.1) (xs_ixl hok.2)) rfl d_X_messageArrives_76 ?_
        obtain ⟨f9, hq9, hl9, hz9⟩ := hX.2.2.2.2.2.2.1 (xs_ix z.2.2.2.2.1) (Nat.lt_of_lt_of_le (xs_ixl hok.2) (by decide))
        refine xk_iQ (rest := []) (c_Q_isFull l g B o lim σ (xs_ix z.2.2.2.2.1) (Nat.lt_of_lt_of_le (xs_ixl hok.2) (by decide))) gd_X_Q_isFull hd_Q_isFull hC hW hX hS (xb_recv hK (ci := xi_Q) rfl hq9.1) trivial (by omega) (by omega) (by omega) (by omega) hl.1 rfl (Nat.le_of_ble_eq_true rfl) d_X_messageArrives_79 (fun v8 H locs hv hX hS hF => ?_)
        have hz := hz.F hX.2.2.2.2.2.2.2.1 hF
        obtain rfl := hv
        refine lv_if_ne (tgt := 97) hx hb d_X_messageArrives_82 (by decide) (fun c_3 => ?_) (fun c_3 => ?_)
        · have c_3 := xs_b1 c_3
          refine lv_aload_n hx hb d_X_messageArrives_97 rfl (lv_at hl 3 rfl) ?_
          refine lv_aload_n hx hb d_X_messageArrives_98 rfl (lv_at hl 4 rfl) ?_
          obtain ⟨v9, hXo, hXl⟩ := hX.1
          refine xk_iV (rest := []) (c_X_returnError l g B o lim σ a z) gd_X_X_returnError hd_X_returnError hC hW hX hS (xb_recv hK (ci := xi_X) rfl hXo) hz (by omega) (by omega) (by omega) (by omega) hl.1 rfl (Nat.le_of_ble_eq_true rfl) d_X_messageArrives_99 (fun H locs hX hS hF => ?_)
          have hz := hz.F hX.2.2.2.2.2.2.2.1 hF
          exact xr_V (τ := xm_msg σ z) hC hW hX hS (by omega) (by omega) (by simp only [xm_msg, xm_msg2, hbw, c_1, c_2, c_3, if_true, if_false, reduceIte, Bool.false_eq_true, Bool.true_eq_false, and_true, true_and, and_false, false_and, or_true, true_or, or_false, false_or, not_true_eq_false, not_false_eq_true] <;> rfl) d_X_messageArrives_102
        · have c_3 := xs_b0 c_3
          refine lv_aload hx hb d_X_messageArrives_85 (lv_at hl 0 rfl) ?_
          refine gf_X_A_kept hx hb hts hown hK (hX.2.2.2.1 (xs_ix z.2.2.2.2.1) (xs_ixl hok.2)) rfl d_X_messageArrives_87 ?_
          refine lv_aload_n hx hb d_X_messageArrives_90 rfl (lv_at hl 4 rfl) ?_
          obtain ⟨f9, hq9, hl9, hz9⟩ := hX.2.2.2.2.2.2.1 (xs_ix z.2.2.2.2.1) (Nat.lt_of_lt_of_le (xs_ixl hok.2) (by decide))
          refine xk_iV (rest := []) (c_Q_add l g B o lim σ (xs_ix z.2.2.2.2.1) (Nat.lt_of_lt_of_le (xs_ixl hok.2) (by decide)) a z) gd_X_Q_add hd_Q_add hC hW hX hS (xb_recv hK (ci := xi_Q) rfl hq9.1) hz (by omega) (by omega) (by omega) (by omega) hl.1 rfl (Nat.le_of_ble_eq_true rfl) d_X_messageArrives_91 (fun H locs hX hS hF => ?_)
          have hz := hz.F hX.2.2.2.2.2.2.2.1 hF
          refine lv_goto (tgt := 102) hx hb d_X_messageArrives_94 (by decide) ?_
          exact xr_V (τ := xm_msg σ z) hC hW hX hS (by omega) (by omega) (by simp only [xm_msg, xm_msg2, hbw, c_1, c_2, c_3, if_true, if_false, reduceIte, Bool.false_eq_true, Bool.true_eq_false, and_true, true_and, and_false, false_and, or_true, true_or, or_false, false_or, not_true_eq_false, not_false_eq_true] <;> rfl) d_X_messageArrives_102
    · refine lv_aload_n hx hb d_X_messageArrives_57 rfl (lv_at hl 3 rfl) ?_
      refine lv_aload_n hx hb d_X_messageArrives_58 rfl (lv_at hl 4 rfl) ?_
      refine lv_iload_n hx hb d_X_messageArrives_59 rfl (lv_at hl 1 rfl) ?_
      obtain ⟨v9, hXo, hXl⟩ := hX.1
      refine xk_iV (rest := []) (c_X_giveToPriority l g B o lim σ a z (xm_great 6 0 σ z.2.2.2.2.1 (-1))) gd_X_X_giveToPriority hd_X_giveToPriority hC hW hX hS (xb_recv hK (ci := xi_X) rfl hXo) hz (by omega) (by omega) (by omega) (by omega) hl.1 rfl (Nat.le_of_ble_eq_true rfl) d_X_messageArrives_60 (fun H locs hX hS hF => ?_)
      have hz := hz.F hX.2.2.2.2.2.2.2.1 hF
      refine lv_goto (tgt := 102) hx hb d_X_messageArrives_63 (by decide) ?_
      exact xr_V (τ := xm_msg σ z) hC hW hX hS (by omega) (by omega) (by simp only [xm_msg, xm_msg2, hbw, c_1, if_true, if_false, reduceIte, Bool.false_eq_true, Bool.true_eq_false, and_true, true_and, and_false, false_and, or_true, true_or, or_false, false_or, not_true_eq_false, not_false_eq_true] <;> rfl) d_X_messageArrives_102
  | some ib =>
    rw [hbw] at hv
    obtain ⟨rfl, hib⟩ : v8 = .ref (o + 36 + 3 * ib) ∧ ib < 6 := hv
    refine lv_astore_n (lv' := [(2, .ref (o + 36 + 3 * ib)), (0, .ref o), (1, .ref a)]) hx hb d_X_messageArrives_12 rfl hl (by decide) rfl (fun ls hl => ?_)
    refine lv_aload_n hx hb d_X_messageArrives_13 rfl (lv_at hl 0 rfl) ?_
    refine lv_ifnull hx hb d_X_messageArrives_14 ?_
    refine lv_aload_n hx hb d_X_messageArrives_17 rfl (lv_at hl 0 rfl) ?_
    refine gf_X_C_available hx hb hts hown hK (hX.2.2.2.2.2.1 ib hib) rfl d_X_messageArrives_18 ?_
    refine lv_if_eq (tgt := 33) hx hb d_X_messageArrives_21 (by decide) (fun c_4 => ?_) (fun c_4 => ?_)
    · have c_4 := xs_b0 c_4
      refine lv_aload_n hx hb d_X_messageArrives_33 rfl (lv_at hl 1 rfl) ?_
      refine lv_aload_n hx hb d_X_messageArrives_34 rfl (lv_at hl 2 rfl) ?_
      refine gf_X_Z_to hx hb hts hown hK hz.1 rfl d_X_messageArrives_35 ?_
      obtain ⟨v9, hXo, hXl⟩ := hX.1
      refine xk_iQ (rest := []) (c_X_greatestPriority l g B o lim σ z.2.2.2.2.1) gd_X_X_greatestPriority hd_X_greatestPriority hC hW hX hS (xb_recv hK (ci := xi_X) rfl hXo) trivial (by omega) (by omega) (by omega) (by omega) hl.1 rfl (Nat.le_of_ble_eq_true rfl) d_X_messageArrives_38 (fun v8 H locs hv hX hS hF => ?_)
      have hz := hz.F hX.2.2.2.2.2.2.2.1 hF
      obtain rfl := hv
      refine lv_istore_n (lv' := [(3, .int (xm_great 6 0 σ z.2.2.2.2.1 (-1))), (2, .ref (o + 36 + 3 * ib)), (0, .ref o), (1, .ref a)]) hx hb d_X_messageArrives_41 rfl hl (by decide) rfl (fun ls hl => ?_)
      refine lv_aload_n hx hb d_X_messageArrives_42 rfl (lv_at hl 2 rfl) ?_
      obtain ⟨v9, hXo, hXl⟩ := hX.1
      refine gf_X_X_accounts hx hb hts hown hK hXo rfl d_X_messageArrives_43 ?_
      refine lv_aload_n hx hb d_X_messageArrives_46 rfl (lv_at hl 3 rfl) ?_
      refine gf_X_Z_to hx hb hts hown hK hz.1 rfl d_X_messageArrives_47 ?_
      refine xb_aald (v := o + 3 + 4 * (xs_ix z.2.2.2.2.1)) hx hb hK 0 rfl hX.2.1 hok.2 rfl d_X_messageArrives_50 ?_
      refine lv_astore (lv' := [(4, .ref (o + 3 + 4 * (xs_ix z.2.2.2.2.1))), (3, .int (xm_great 6 0 σ z.2.2.2.2.1 (-1))), (2, .ref (o + 36 + 3 * ib)), (0, .ref o), (1, .ref a)]) hx hb d_X_messageArrives_51 hl (by decide) rfl (fun ls hl => ?_)
      refine lv_iload_n hx hb d_X_messageArrives_53 rfl (lv_at hl 1 rfl) ?_
      refine lv_if_lt (tgt := 66) hx hb d_X_messageArrives_54 (by decide) (fun c_5 => ?_) (fun c_5 => ?_)
      · refine lv_aload hx hb d_X_messageArrives_66 (lv_at hl 0 rfl) ?_
        refine gf_X_A_registered hx hb hts hown hK (hX.2.2.2.1 (xs_ix z.2.2.2.2.1) (xs_ixl hok.2)) rfl d_X_messageArrives_68 ?_
        refine lv_if_eq (tgt := 97) hx hb d_X_messageArrives_71 (by decide) (fun c_6 => ?_) (fun c_6 => ?_)
        · have c_6 := xs_b0 c_6
          refine lv_aload_n hx hb d_X_messageArrives_97 rfl (lv_at hl 3 rfl) ?_
          refine lv_aload_n hx hb d_X_messageArrives_98 rfl (lv_at hl 4 rfl) ?_
          obtain ⟨v9, hXo, hXl⟩ := hX.1
          refine xk_iV (rest := []) (c_X_returnError l g B o lim σ a z) gd_X_X_returnError hd_X_returnError hC hW hX hS (xb_recv hK (ci := xi_X) rfl hXo) hz (by omega) (by omega) (by omega) (by omega) hl.1 rfl (Nat.le_of_ble_eq_true rfl) d_X_messageArrives_99 (fun H locs hX hS hF => ?_)
          have hz := hz.F hX.2.2.2.2.2.2.2.1 hF
          exact xr_V (τ := xm_msg σ z) hC hW hX hS (by omega) (by omega) (by simp only [xm_msg, xm_msg2, hbw, c_4, c_5, c_6, if_true, if_false, reduceIte, Bool.false_eq_true, Bool.true_eq_false, and_true, true_and, and_false, false_and, or_true, true_or, or_false, false_or, not_true_eq_false, not_false_eq_true] <;> rfl) d_X_messageArrives_102
        · have c_6 := xs_b1 c_6
          refine lv_aload hx hb d_X_messageArrives_74 (lv_at hl 0 rfl) ?_
          refine gf_X_A_kept hx hb hts hown hK (hX.2.2.2.1 (xs_ix z.2.2.2.2.1) (xs_ixl hok.2)) rfl d_X_messageArrives_76 ?_
          obtain ⟨f9, hq9, hl9, hz9⟩ := hX.2.2.2.2.2.2.1 (xs_ix z.2.2.2.2.1) (Nat.lt_of_lt_of_le (xs_ixl hok.2) (by decide))
          refine xk_iQ (rest := []) (c_Q_isFull l g B o lim σ (xs_ix z.2.2.2.2.1) (Nat.lt_of_lt_of_le (xs_ixl hok.2) (by decide))) gd_X_Q_isFull hd_Q_isFull hC hW hX hS (xb_recv hK (ci := xi_Q) rfl hq9.1) trivial (by omega) (by omega) (by omega) (by omega) hl.1 rfl (Nat.le_of_ble_eq_true rfl) d_X_messageArrives_79 (fun v8 H locs hv hX hS hF => ?_)
          have hz := hz.F hX.2.2.2.2.2.2.2.1 hF
          obtain rfl := hv
          refine lv_if_ne (tgt := 97) hx hb d_X_messageArrives_82 (by decide) (fun c_7 => ?_) (fun c_7 => ?_)
          · have c_7 := xs_b1 c_7
            refine lv_aload_n hx hb d_X_messageArrives_97 rfl (lv_at hl 3 rfl) ?_
            refine lv_aload_n hx hb d_X_messageArrives_98 rfl (lv_at hl 4 rfl) ?_
            obtain ⟨v9, hXo, hXl⟩ := hX.1
            refine xk_iV (rest := []) (c_X_returnError l g B o lim σ a z) gd_X_X_returnError hd_X_returnError hC hW hX hS (xb_recv hK (ci := xi_X) rfl hXo) hz (by omega) (by omega) (by omega) (by omega) hl.1 rfl (Nat.le_of_ble_eq_true rfl) d_X_messageArrives_99 (fun H locs hX hS hF => ?_)
            have hz := hz.F hX.2.2.2.2.2.2.2.1 hF
            exact xr_V (τ := xm_msg σ z) hC hW hX hS (by omega) (by omega) (by simp only [xm_msg, xm_msg2, hbw, c_4, c_5, c_6, c_7, if_true, if_false, reduceIte, Bool.false_eq_true, Bool.true_eq_false, and_true, true_and, and_false, false_and, or_true, true_or, or_false, false_or, not_true_eq_false, not_false_eq_true] <;> rfl) d_X_messageArrives_102
          · have c_7 := xs_b0 c_7
            refine lv_aload hx hb d_X_messageArrives_85 (lv_at hl 0 rfl) ?_
            refine gf_X_A_kept hx hb hts hown hK (hX.2.2.2.1 (xs_ix z.2.2.2.2.1) (xs_ixl hok.2)) rfl d_X_messageArrives_87 ?_
            refine lv_aload_n hx hb d_X_messageArrives_90 rfl (lv_at hl 4 rfl) ?_
            obtain ⟨f9, hq9, hl9, hz9⟩ := hX.2.2.2.2.2.2.1 (xs_ix z.2.2.2.2.1) (Nat.lt_of_lt_of_le (xs_ixl hok.2) (by decide))
            refine xk_iV (rest := []) (c_Q_add l g B o lim σ (xs_ix z.2.2.2.2.1) (Nat.lt_of_lt_of_le (xs_ixl hok.2) (by decide)) a z) gd_X_Q_add hd_Q_add hC hW hX hS (xb_recv hK (ci := xi_Q) rfl hq9.1) hz (by omega) (by omega) (by omega) (by omega) hl.1 rfl (Nat.le_of_ble_eq_true rfl) d_X_messageArrives_91 (fun H locs hX hS hF => ?_)
            have hz := hz.F hX.2.2.2.2.2.2.2.1 hF
            refine lv_goto (tgt := 102) hx hb d_X_messageArrives_94 (by decide) ?_
            exact xr_V (τ := xm_msg σ z) hC hW hX hS (by omega) (by omega) (by simp only [xm_msg, xm_msg2, hbw, c_4, c_5, c_6, c_7, if_true, if_false, reduceIte, Bool.false_eq_true, Bool.true_eq_false, and_true, true_and, and_false, false_and, or_true, true_or, or_false, false_or, not_true_eq_false, not_false_eq_true] <;> rfl) d_X_messageArrives_102
      · refine lv_aload_n hx hb d_X_messageArrives_57 rfl (lv_at hl 3 rfl) ?_
        refine lv_aload_n hx hb d_X_messageArrives_58 rfl (lv_at hl 4 rfl) ?_
        refine lv_iload_n hx hb d_X_messageArrives_59 rfl (lv_at hl 1 rfl) ?_
        obtain ⟨v9, hXo, hXl⟩ := hX.1
        refine xk_iV (rest := []) (c_X_giveToPriority l g B o lim σ a z (xm_great 6 0 σ z.2.2.2.2.1 (-1))) gd_X_X_giveToPriority hd_X_giveToPriority hC hW hX hS (xb_recv hK (ci := xi_X) rfl hXo) hz (by omega) (by omega) (by omega) (by omega) hl.1 rfl (Nat.le_of_ble_eq_true rfl) d_X_messageArrives_60 (fun H locs hX hS hF => ?_)
        have hz := hz.F hX.2.2.2.2.2.2.2.1 hF
        refine lv_goto (tgt := 102) hx hb d_X_messageArrives_63 (by decide) ?_
        exact xr_V (τ := xm_msg σ z) hC hW hX hS (by omega) (by omega) (by simp only [xm_msg, xm_msg2, hbw, c_4, c_5, if_true, if_false, reduceIte, Bool.false_eq_true, Bool.true_eq_false, and_true, true_and, and_false, false_and, or_true, true_or, or_false, false_or, not_true_eq_false, not_false_eq_true] <;> rfl) d_X_messageArrives_102
    · have c_4 := xs_b1 c_4
      refine lv_aload_n hx hb d_X_messageArrives_24 rfl (lv_at hl 0 rfl) ?_
      refine gf_X_C_inbox hx hb hts hown hK (hX.2.2.2.2.2.1 ib hib) rfl d_X_messageArrives_25 ?_
      refine lv_aload_n hx hb d_X_messageArrives_28 rfl (lv_at hl 2 rfl) ?_
      obtain ⟨f9, hq9, hl9, hz9⟩ := hX.2.2.2.2.2.2.1 (8 + ib) (xs_8 hib)
      refine xk_iV (rest := []) (c_Q_add l g B o lim σ (8 + ib) (xs_8 hib) a z) gd_X_Q_add hd_Q_add hC hW hX hS (xb_recv hK (ci := xi_Q) rfl hq9.1) hz (by omega) (by omega) (by omega) (by omega) hl.1 rfl (Nat.le_of_ble_eq_true rfl) d_X_messageArrives_29 (fun H locs hX hS hF => ?_)
      have hz := hz.F hX.2.2.2.2.2.2.2.1 hF
      exact xr_V (τ := xm_msg σ z) hC hW hX hS (by omega) (by omega) (by simp only [xm_msg, xm_msg2, hbw, c_4, if_true, if_false, reduceIte, Bool.false_eq_true, Bool.true_eq_false, and_true, true_and, and_false, false_and, or_true, true_or, or_false, false_or, not_true_eq_false, not_false_eq_true] <;> rfl) d_X_messageArrives_32
set_option maxHeartbeats 4000000 in
set_option maxRecDepth 100000 in
theorem c_X_arrive (l : Launch) (g : xw_G) (B : Nat → Prop) (o lim : Nat) (σ : xs_S) (a : Nat) (z : xs_Z) (hok : xm_ok z) : xc_V l y_X_arrive (Cond.code y_X_arrive b_X_arrive 2 none) g B o lim σ (xm_arr σ z) [.ref o, .ref a] (fun H => xw_Z g B a z H) 4 91 1 6 := by
  refine xh_V (own := R_X) (by decide) rfl (Nat.le_of_ble_eq_true rfl) ?_
  intro p e R s m below meth c ls hRf hRl hRc hRs hC hW hE hl
  obtain ⟨hx, hb, hml, hr, hown, hts, hlk⟩ := id hC
  have hX := hW.1
  have hK := hW.2.1
  have hS : va_S (xw_A o s.heap.size) s.heap s.heap [] := va_S.rf
  have hl : lv_has ls 2 [(0, .ref o), (1, .ref a)] := hl
  have hz := hE
  refine lv_aload_n hx hb d_X_arrive_0 rfl (lv_at hl 1 rfl) ?_
  refine gf_X_Z_kind hx hb hts hown hK hz.1 rfl d_X_arrive_1 ?_
  by_cases c_1 : z.1 = 1
  · refine lv_tableIn (tgt := 48) (off := 44) hx hb d_X_arrive_4 (by rw [c_1]; decide) (by rw [c_1]; decide) (by rw [c_1]; rfl) (by decide) ?_
    refine lv_aload_n hx hb d_X_arrive_48 rfl (lv_at hl 0 rfl) ?_
    refine lv_aload_n hx hb d_X_arrive_49 rfl (lv_at hl 1 rfl) ?_
    obtain ⟨v9, hXo, hXl⟩ := hX.1
    refine xk_iV (rest := []) (c_X_messageArrives l g B o lim σ a z hok) gd_X_X_messageArrives hd_X_messageArrives hC hW hX hS (xb_recv hK (ci := xi_X) rfl hXo) hz (by omega) (by omega) (by omega) (by omega) hl.1 rfl (Nat.le_of_ble_eq_true rfl) d_X_arrive_50 (fun H locs hX hS hF => ?_)
    have hz := hz.F hX.2.2.2.2.2.2.2.1 hF
    refine lv_goto (tgt := 119) hx hb d_X_arrive_53 (by decide) ?_
    exact xr_V (τ := xm_arr σ z) hC hW hX hS (by omega) (by omega) (by simp only [xm_arr, c_1, if_true, if_false, reduceIte, Bool.false_eq_true, Bool.true_eq_false, and_true, true_and, and_false, false_and, or_true, true_or, or_false, false_or, not_true_eq_false, not_false_eq_true] <;> rfl) d_X_arrive_119
  by_cases c_2 : z.1 = 2
  · refine lv_tableIn (tgt := 91) (off := 87) hx hb d_X_arrive_4 (by rw [c_2]; decide) (by rw [c_2]; decide) (by rw [c_2]; rfl) (by decide) ?_
    refine lv_aload_n hx hb d_X_arrive_91 rfl (lv_at hl 0 rfl) ?_
    obtain ⟨v9, hXo, hXl⟩ := hX.1
    refine gf_X_X_accounts hx hb hts hown hK hXo rfl d_X_arrive_92 ?_
    refine lv_aload_n hx hb d_X_arrive_95 rfl (lv_at hl 1 rfl) ?_
    refine gf_X_Z_to hx hb hts hown hK hz.1 rfl d_X_arrive_96 ?_
    refine xb_aald (v := o + 3 + 4 * (xs_ix z.2.2.2.2.1)) hx hb hK 0 rfl hX.2.1 hok.2 rfl d_X_arrive_99 ?_
    refine lv_aload_n hx hb d_X_arrive_100 rfl (lv_at hl 1 rfl) ?_
    refine gf_X_Z_from hx hb hts hown hK hz.1 rfl d_X_arrive_101 ?_
    refine lv_iconst (v := 1) hx hb d_X_arrive_104 (by decide) ?_
    refine xk_iQ (rest := []) (c_A_hasAny l g B o lim σ (xs_ix z.2.2.2.2.1) (xs_ixl hok.2) z.2.1 (xs_ix z.2.1) hok.1 rfl 1) gd_X_A_hasAny hd_A_hasAny hC hW hX hS (xb_recv hK (ci := xi_A) rfl (hX.2.2.2.1 (xs_ix z.2.2.2.2.1) (xs_ixl hok.2))) trivial (by omega) (by omega) (by omega) (by omega) hl.1 rfl (Nat.le_of_ble_eq_true rfl) d_X_arrive_105 (fun v8 H locs hv hX hS hF => ?_)
    have hz := hz.F hX.2.2.2.2.2.2.2.1 hF
    obtain rfl := hv
    refine lv_if_eq (tgt := 119) hx hb d_X_arrive_108 (by decide) (fun c_3 => ?_) (fun c_3 => ?_)
    · have c_3 := xs_b0 c_3
      exact xr_V (τ := xm_arr σ z) hC hW hX hS (by omega) (by omega) (by simp only [xm_arr, c_1, c_2, c_3, if_true, if_false, reduceIte, Bool.false_eq_true, Bool.true_eq_false, and_true, true_and, and_false, false_and, or_true, true_or, or_false, false_or, not_true_eq_false, not_false_eq_true] <;> rfl) d_X_arrive_119
    · have c_3 := xs_b1 c_3
      refine lv_aload_n hx hb d_X_arrive_111 rfl (lv_at hl 0 rfl) ?_
      refine lv_aload_n hx hb d_X_arrive_112 rfl (lv_at hl 1 rfl) ?_
      obtain ⟨v9, hXo, hXl⟩ := hX.1
      refine xk_iV (rest := []) (c_X_giveToAvailable l g B o lim σ a z) gd_X_X_giveToAvailable hd_X_giveToAvailable hC hW hX hS (xb_recv hK (ci := xi_X) rfl hXo) hz (by omega) (by omega) (by omega) (by omega) hl.1 rfl (Nat.le_of_ble_eq_true rfl) d_X_arrive_113 (fun H locs hX hS hF => ?_)
      have hz := hz.F hX.2.2.2.2.2.2.2.1 hF
      refine lv_goto (tgt := 119) hx hb d_X_arrive_116 (by decide) ?_
      exact xr_V (τ := xm_arr σ z) hC hW hX hS (by omega) (by omega) (by simp only [xm_arr, c_1, c_2, c_3, if_true, if_false, reduceIte, Bool.false_eq_true, Bool.true_eq_false, and_true, true_and, and_false, false_and, or_true, true_or, or_false, false_or, not_true_eq_false, not_false_eq_true] <;> rfl) d_X_arrive_119
  by_cases c_4 : z.1 = 3
  · refine lv_tableIn (tgt := 91) (off := 87) hx hb d_X_arrive_4 (by rw [c_4]; decide) (by rw [c_4]; decide) (by rw [c_4]; rfl) (by decide) ?_
    refine lv_aload_n hx hb d_X_arrive_91 rfl (lv_at hl 0 rfl) ?_
    obtain ⟨v9, hXo, hXl⟩ := hX.1
    refine gf_X_X_accounts hx hb hts hown hK hXo rfl d_X_arrive_92 ?_
    refine lv_aload_n hx hb d_X_arrive_95 rfl (lv_at hl 1 rfl) ?_
    refine gf_X_Z_to hx hb hts hown hK hz.1 rfl d_X_arrive_96 ?_
    refine xb_aald (v := o + 3 + 4 * (xs_ix z.2.2.2.2.1)) hx hb hK 0 rfl hX.2.1 hok.2 rfl d_X_arrive_99 ?_
    refine lv_aload_n hx hb d_X_arrive_100 rfl (lv_at hl 1 rfl) ?_
    refine gf_X_Z_from hx hb hts hown hK hz.1 rfl d_X_arrive_101 ?_
    refine lv_iconst (v := 1) hx hb d_X_arrive_104 (by decide) ?_
    refine xk_iQ (rest := []) (c_A_hasAny l g B o lim σ (xs_ix z.2.2.2.2.1) (xs_ixl hok.2) z.2.1 (xs_ix z.2.1) hok.1 rfl 1) gd_X_A_hasAny hd_A_hasAny hC hW hX hS (xb_recv hK (ci := xi_A) rfl (hX.2.2.2.1 (xs_ix z.2.2.2.2.1) (xs_ixl hok.2))) trivial (by omega) (by omega) (by omega) (by omega) hl.1 rfl (Nat.le_of_ble_eq_true rfl) d_X_arrive_105 (fun v8 H locs hv hX hS hF => ?_)
    have hz := hz.F hX.2.2.2.2.2.2.2.1 hF
    obtain rfl := hv
    refine lv_if_eq (tgt := 119) hx hb d_X_arrive_108 (by decide) (fun c_5 => ?_) (fun c_5 => ?_)
    · have c_5 := xs_b0 c_5
      exact xr_V (τ := xm_arr σ z) hC hW hX hS (by omega) (by omega) (by simp only [xm_arr, c_1, c_2, c_4, c_5, if_true, if_false, reduceIte, Bool.false_eq_true, Bool.true_eq_false, and_true, true_and, and_false, false_and, or_true, true_or, or_false, false_or, not_true_eq_false, not_false_eq_true] <;> rfl) d_X_arrive_119
    · have c_5 := xs_b1 c_5
      refine lv_aload_n hx hb d_X_arrive_111 rfl (lv_at hl 0 rfl) ?_
      refine lv_aload_n hx hb d_X_arrive_112 rfl (lv_at hl 1 rfl) ?_
      obtain ⟨v9, hXo, hXl⟩ := hX.1
      refine xk_iV (rest := []) (c_X_giveToAvailable l g B o lim σ a z) gd_X_X_giveToAvailable hd_X_giveToAvailable hC hW hX hS (xb_recv hK (ci := xi_X) rfl hXo) hz (by omega) (by omega) (by omega) (by omega) hl.1 rfl (Nat.le_of_ble_eq_true rfl) d_X_arrive_113 (fun H locs hX hS hF => ?_)
      have hz := hz.F hX.2.2.2.2.2.2.2.1 hF
      refine lv_goto (tgt := 119) hx hb d_X_arrive_116 (by decide) ?_
      exact xr_V (τ := xm_arr σ z) hC hW hX hS (by omega) (by omega) (by simp only [xm_arr, c_1, c_2, c_4, c_5, if_true, if_false, reduceIte, Bool.false_eq_true, Bool.true_eq_false, and_true, true_and, and_false, false_and, or_true, true_or, or_false, false_or, not_true_eq_false, not_false_eq_true] <;> rfl) d_X_arrive_119
  by_cases c_6 : z.1 = 4
  · refine lv_tableIn (tgt := 56) (off := 52) hx hb d_X_arrive_4 (by rw [c_6]; decide) (by rw [c_6]; decide) (by rw [c_6]; rfl) (by decide) ?_
    refine lv_aload_n hx hb d_X_arrive_56 rfl (lv_at hl 0 rfl) ?_
    refine lv_aload_n hx hb d_X_arrive_57 rfl (lv_at hl 1 rfl) ?_
    obtain ⟨v9, hXo, hXl⟩ := hX.1
    refine xk_iV (rest := []) (c_X_askArrives l g B o lim σ a z hok) gd_X_X_askArrives hd_X_askArrives hC hW hX hS (xb_recv hK (ci := xi_X) rfl hXo) hz (by omega) (by omega) (by omega) (by omega) hl.1 rfl (Nat.le_of_ble_eq_true rfl) d_X_arrive_58 (fun H locs hX hS hF => ?_)
    have hz := hz.F hX.2.2.2.2.2.2.2.1 hF
    refine lv_goto (tgt := 119) hx hb d_X_arrive_61 (by decide) ?_
    exact xr_V (τ := xm_arr σ z) hC hW hX hS (by omega) (by omega) (by simp only [xm_arr, c_1, c_2, c_4, c_6, if_true, if_false, reduceIte, Bool.false_eq_true, Bool.true_eq_false, and_true, true_and, and_false, false_and, or_true, true_or, or_false, false_or, not_true_eq_false, not_false_eq_true] <;> rfl) d_X_arrive_119
  by_cases c_7 : z.1 = 5
  · refine lv_tableIn (tgt := 64) (off := 60) hx hb d_X_arrive_4 (by rw [c_7]; decide) (by rw [c_7]; decide) (by rw [c_7]; rfl) (by decide) ?_
    refine lv_aload_n hx hb d_X_arrive_64 rfl (lv_at hl 0 rfl) ?_
    refine lv_aload_n hx hb d_X_arrive_65 rfl (lv_at hl 1 rfl) ?_
    obtain ⟨v9, hXo, hXl⟩ := hX.1
    refine xk_iV (rest := []) (c_X_grantArrives l g B o lim σ a z hok) gd_X_X_grantArrives hd_X_grantArrives hC hW hX hS (xb_recv hK (ci := xi_X) rfl hXo) hz (by omega) (by omega) (by omega) (by omega) hl.1 rfl (Nat.le_of_ble_eq_true rfl) d_X_arrive_66 (fun H locs hX hS hF => ?_)
    have hz := hz.F hX.2.2.2.2.2.2.2.1 hF
    refine lv_goto (tgt := 119) hx hb d_X_arrive_69 (by decide) ?_
    exact xr_V (τ := xm_arr σ z) hC hW hX hS (by omega) (by omega) (by simp only [xm_arr, c_1, c_2, c_4, c_6, c_7, if_true, if_false, reduceIte, Bool.false_eq_true, Bool.true_eq_false, and_true, true_and, and_false, false_and, or_true, true_or, or_false, false_or, not_true_eq_false, not_false_eq_true] <;> rfl) d_X_arrive_119
  by_cases c_8 : z.1 = 6
  · refine lv_tableIn (tgt := 72) (off := 68) hx hb d_X_arrive_4 (by rw [c_8]; decide) (by rw [c_8]; decide) (by rw [c_8]; rfl) (by decide) ?_
    refine lv_aload_n hx hb d_X_arrive_72 rfl (lv_at hl 0 rfl) ?_
    refine lv_aload_n hx hb d_X_arrive_73 rfl (lv_at hl 1 rfl) ?_
    refine lv_bipush (v := 10) hx hb d_X_arrive_74 (by decide) ?_
    obtain ⟨v9, hXo, hXl⟩ := hX.1
    refine xk_iV (rest := []) (c_X_endingArrives l g B o lim σ a z 10 hok) gd_X_X_endingArrives hd_X_endingArrives hC hW hX hS (xb_recv hK (ci := xi_X) rfl hXo) hz (by omega) (by omega) (by omega) (by omega) hl.1 rfl (Nat.le_of_ble_eq_true rfl) d_X_arrive_76 (fun H locs hX hS hF => ?_)
    have hz := hz.F hX.2.2.2.2.2.2.2.1 hF
    refine lv_goto (tgt := 119) hx hb d_X_arrive_79 (by decide) ?_
    exact xr_V (τ := xm_arr σ z) hC hW hX hS (by omega) (by omega) (by simp only [xm_arr, c_1, c_2, c_4, c_6, c_7, c_8, if_true, if_false, reduceIte, Bool.false_eq_true, Bool.true_eq_false, and_true, true_and, and_false, false_and, or_true, true_or, or_false, false_or, not_true_eq_false, not_false_eq_true] <;> rfl) d_X_arrive_119
  by_cases c_9 : z.1 = 7
  · refine lv_tableIn (tgt := 82) (off := 78) hx hb d_X_arrive_4 (by rw [c_9]; decide) (by rw [c_9]; decide) (by rw [c_9]; rfl) (by decide) ?_
    refine lv_aload_n hx hb d_X_arrive_82 rfl (lv_at hl 0 rfl) ?_
    refine lv_aload_n hx hb d_X_arrive_83 rfl (lv_at hl 1 rfl) ?_
    refine lv_iconst (v := 5) hx hb d_X_arrive_84 (by decide) ?_
    obtain ⟨v9, hXo, hXl⟩ := hX.1
    refine xk_iV (rest := []) (c_X_endingArrives l g B o lim σ a z 5 hok) gd_X_X_endingArrives hd_X_endingArrives hC hW hX hS (xb_recv hK (ci := xi_X) rfl hXo) hz (by omega) (by omega) (by omega) (by omega) hl.1 rfl (Nat.le_of_ble_eq_true rfl) d_X_arrive_85 (fun H locs hX hS hF => ?_)
    have hz := hz.F hX.2.2.2.2.2.2.2.1 hF
    refine lv_goto (tgt := 119) hx hb d_X_arrive_88 (by decide) ?_
    exact xr_V (τ := xm_arr σ z) hC hW hX hS (by omega) (by omega) (by simp only [xm_arr, c_1, c_2, c_4, c_6, c_7, c_8, c_9, if_true, if_false, reduceIte, Bool.false_eq_true, Bool.true_eq_false, and_true, true_and, and_false, false_and, or_true, true_or, or_false, false_or, not_true_eq_false, not_false_eq_true] <;> rfl) d_X_arrive_119
  refine lv_tableOut (tgt := 119) hx hb d_X_arrive_4 (by have q0 := lv_neT c_1 (a := 1) rfl; have q1 := lv_neT c_2 (a := 2) rfl; have q2 := lv_neT c_4 (a := 3) rfl; have q3 := lv_neT c_6 (a := 4) rfl; have q4 := lv_neT c_7 (a := 5) rfl; have q5 := lv_neT c_8 (a := 6) rfl; have q6 := lv_neT c_9 (a := 7) rfl; omega) (by decide) ?_
  exact xr_V (τ := xm_arr σ z) hC hW hX hS (by omega) (by omega) (by simp only [xm_arr, c_1, c_2, c_4, c_6, c_7, c_8, c_9, if_true, if_false, reduceIte, Bool.false_eq_true, Bool.true_eq_false, and_true, true_and, and_false, false_and, or_true, true_or, or_false, false_or, not_true_eq_false, not_false_eq_true] <;> rfl) d_X_arrive_119
set_option maxHeartbeats 4000000 in
set_option maxRecDepth 100000 in
theorem c_X_send (l : Launch) (g : xw_G) (B : Nat → Prop) (o lim : Nat) (σ : xs_S) (a : Nat) (z : xs_Z) (hok : xm_ok z) : xc_V l y_X_send (Cond.code y_X_send b_X_send 2 none) g B o lim σ (xm_send σ z) [.ref o, .ref a] (fun H => xw_Z g B a z H) 5 112 1 6 := by
  refine xh_V (own := R_X) (by decide) rfl (Nat.le_of_ble_eq_true rfl) ?_
  intro p e R s m below meth c ls hRf hRl hRc hRs hC hW hE hl
  obtain ⟨hx, hb, hml, hr, hown, hts, hlk⟩ := id hC
  have hX := hW.1
  have hK := hW.2.1
  have hS : va_S (xw_A o s.heap.size) s.heap s.heap [] := va_S.rf
  have hl : lv_has ls 2 [(0, .ref o), (1, .ref a)] := hl
  have hz := hE
  refine lv_aload_n hx hb d_X_send_0 rfl (lv_at hl 0 rfl) ?_
  refine lv_aload_n hx hb d_X_send_1 rfl (lv_at hl 1 rfl) ?_
  refine gf_X_Z_from hx hb hts hown hK hz.1 rfl d_X_send_2 ?_
  refine lv_aload_n hx hb d_X_send_5 rfl (lv_at hl 1 rfl) ?_
  refine gf_X_Z_to hx hb hts hown hK hz.1 rfl d_X_send_6 ?_
  obtain ⟨v9, hXo, hXl⟩ := hX.1
  refine xk_iQ (rest := []) (c_X_canReach l g B o lim σ z.2.1 z.2.2.2.2.1) gd_X_X_canReach hd_X_canReach hC hW hX hS (xb_recv hK (ci := xi_X) rfl hXo) trivial (by omega) (by omega) (by omega) (by omega) hl.1 rfl (Nat.le_of_ble_eq_true rfl) d_X_send_9 (fun v8 H locs hv hX hS hF => ?_)
  have hz := hz.F hX.2.2.2.2.2.2.2.1 hF
  obtain rfl := hv
  refine lv_if_eq (tgt := 23) hx hb d_X_send_12 (by decide) (fun c_1 => ?_) (fun c_1 => ?_)
  · have c_1 := xs_b0 c_1
    refine lv_aload_n hx hb d_X_send_23 rfl (lv_at hl 0 rfl) ?_
    obtain ⟨v9, hXo, hXl⟩ := hX.1
    refine gf_X_X_waiting hx hb hts hown hK hXo rfl d_X_send_24 ?_
    obtain ⟨f9, hq9, hl9, hz9⟩ := hX.2.2.2.2.2.2.1 14 (by decide)
    refine xk_iQ (rest := []) (c_Q_isFull l g B o lim σ 14 (by decide)) gd_X_Q_isFull hd_Q_isFull hC hW hX hS (xb_recv hK (ci := xi_Q) rfl hq9.1) trivial (by omega) (by omega) (by omega) (by omega) hl.1 rfl (Nat.le_of_ble_eq_true rfl) d_X_send_27 (fun v8 H locs hv hX hS hF => ?_)
    have hz := hz.F hX.2.2.2.2.2.2.2.1 hF
    obtain rfl := hv
    refine lv_if_ne (tgt := 44) hx hb d_X_send_30 (by decide) (fun c_2 => ?_) (fun c_2 => ?_)
    · have c_2 := xs_b1 c_2
      refine lv_aload_n hx hb d_X_send_44 rfl (lv_at hl 1 rfl) ?_
      refine gf_X_Z_kind hx hb hts hown hK hz.1 rfl d_X_send_45 ?_
      refine lv_iconst (v := 1) hx hb d_X_send_48 (by decide) ?_
      refine lv_icmp_ne (tgt := 57) hx hb d_X_send_49 (by decide) (fun c_3 => ?_) (fun c_3 => ?_)
      · exact xr_V (τ := xm_send σ z) hC hW hX hS (by omega) (by omega) (by simp only [xm_send, c_1, c_2, c_3, if_true, if_false, reduceIte, Bool.false_eq_true, Bool.true_eq_false, and_true, true_and, and_false, false_and, or_true, true_or, or_false, false_or, not_true_eq_false, not_false_eq_true] <;> rfl) d_X_send_57
      · refine lv_aload_n hx hb d_X_send_52 rfl (lv_at hl 0 rfl) ?_
        refine lv_aload_n hx hb d_X_send_53 rfl (lv_at hl 1 rfl) ?_
        obtain ⟨v9, hXo, hXl⟩ := hX.1
        refine xk_iV (rest := []) (c_X_returnError l g B o lim σ a z) gd_X_X_returnError hd_X_returnError hC hW hX hS (xb_recv hK (ci := xi_X) rfl hXo) hz (by omega) (by omega) (by omega) (by omega) hl.1 rfl (Nat.le_of_ble_eq_true rfl) d_X_send_54 (fun H locs hX hS hF => ?_)
        have hz := hz.F hX.2.2.2.2.2.2.2.1 hF
        exact xr_V (τ := xm_send σ z) hC hW hX hS (by omega) (by omega) (by simp only [xm_send, c_1, c_2, c_3, if_true, if_false, reduceIte, Bool.false_eq_true, Bool.true_eq_false, and_true, true_and, and_false, false_and, or_true, true_or, or_false, false_or, not_true_eq_false, not_false_eq_true] <;> rfl) d_X_send_57
    · have c_2 := xs_b0 c_2
      refine lv_aload_n hx hb d_X_send_33 rfl (lv_at hl 0 rfl) ?_
      obtain ⟨v9, hXo, hXl⟩ := hX.1
      refine gf_X_X_waiting hx hb hts hown hK hXo rfl d_X_send_34 ?_
      refine lv_aload_n hx hb d_X_send_37 rfl (lv_at hl 1 rfl) ?_
      obtain ⟨f9, hq9, hl9, hz9⟩ := hX.2.2.2.2.2.2.1 14 (by decide)
      refine xk_iV (rest := []) (c_Q_add l g B o lim σ 14 (by decide) a z) gd_X_Q_add hd_Q_add hC hW hX hS (xb_recv hK (ci := xi_Q) rfl hq9.1) hz (by omega) (by omega) (by omega) (by omega) hl.1 rfl (Nat.le_of_ble_eq_true rfl) d_X_send_38 (fun H locs hX hS hF => ?_)
      have hz := hz.F hX.2.2.2.2.2.2.2.1 hF
      refine lv_goto (tgt := 57) hx hb d_X_send_41 (by decide) ?_
      exact xr_V (τ := xm_send σ z) hC hW hX hS (by omega) (by omega) (by simp only [xm_send, c_1, c_2, if_true, if_false, reduceIte, Bool.false_eq_true, Bool.true_eq_false, and_true, true_and, and_false, false_and, or_true, true_or, or_false, false_or, not_true_eq_false, not_false_eq_true] <;> rfl) d_X_send_57
  · have c_1 := xs_b1 c_1
    refine lv_aload_n hx hb d_X_send_15 rfl (lv_at hl 0 rfl) ?_
    refine lv_aload_n hx hb d_X_send_16 rfl (lv_at hl 1 rfl) ?_
    obtain ⟨v9, hXo, hXl⟩ := hX.1
    refine xk_iV (rest := []) (c_X_arrive l g B o lim σ a z hok) gd_X_X_arrive hd_X_arrive hC hW hX hS (xb_recv hK (ci := xi_X) rfl hXo) hz (by omega) (by omega) (by omega) (by omega) hl.1 rfl (Nat.le_of_ble_eq_true rfl) d_X_send_17 (fun H locs hX hS hF => ?_)
    have hz := hz.F hX.2.2.2.2.2.2.2.1 hF
    refine lv_goto (tgt := 57) hx hb d_X_send_20 (by decide) ?_
    exact xr_V (τ := xm_send σ z) hC hW hX hS (by omega) (by omega) (by simp only [xm_send, c_1, if_true, if_false, reduceIte, Bool.false_eq_true, Bool.true_eq_false, and_true, true_and, and_false, false_and, or_true, true_or, or_false, false_or, not_true_eq_false, not_false_eq_true] <;> rfl) d_X_send_57
set_option maxHeartbeats 4000000 in
set_option maxRecDepth 100000 in
theorem c_X_presenceOf (l : Launch) (g : xw_G) (B : Nat → Prop) (o lim : Nat) (σ : xs_S) (i : Nat) (hi : i < 6) (x y : Int32) : xc_Q l y_X_presenceOf (Cond.code y_X_presenceOf b_X_presenceOf 4 (some (.object "XmppPair$Stanza"))) g B o lim σ σ [.ref (o + 36 + 3 * i), .int x, .int y] (fun _ => True) (fun v H => ∃ a, v = .ref a ∧ xw_Z g B a (xm_pres σ i x y) H) 2 46 1 6 := by
  refine xh_Q (own := R_X) (by decide) rfl (Nat.le_of_ble_eq_true rfl) ?_
  intro p e R s m below meth c ls hRf hRl hRc hRs hC hW hE hl
  obtain ⟨hx, hb, hml, hr, hown, hts, hlk⟩ := id hC
  have hX := hW.1
  have hK := hW.2.1
  have hS : va_S (xw_A o s.heap.size) s.heap s.heap [] := va_S.rf
  have hl : lv_has ls 4 [(0, .ref (o + 36 + 3 * i)), (1, .int x), (2, .int y)] := hl
  refine lv_iload_n hx hb d_X_presenceOf_0 rfl (lv_at hl 1 rfl) ?_
  refine lv_iconst (v := 2) hx hb d_X_presenceOf_1 (by decide) ?_
  refine lv_icmp_ne (tgt := 12) hx hb d_X_presenceOf_2 (by decide) (fun c_1 => ?_) (fun c_1 => ?_)
  · refine lv_iconst (v := 0) hx hb d_X_presenceOf_12 (by decide) ?_
    refine lv_istore_n (lv' := [(3, .int 0), (0, .ref (o + 36 + 3 * i)), (1, .int x), (2, .int y)]) hx hb d_X_presenceOf_13 rfl hl (by decide) rfl (fun ls hl => ?_)
    refine nw_X_Z hx hb hts hown hK hX hS (by omega) (by omega) d_X_presenceOf_14 (fun a9 H9 hn9 hb9 hsz9 hX9 hS9 hF9 => ?_)
    have hX0 := hX
    have hX := hX9
    refine lv_dup hx hb d_X_presenceOf_17 rfl ?_
    refine lv_iload_n hx hb d_X_presenceOf_18 rfl (lv_at hl 2 rfl) ?_
    refine lv_aload_n hx hb d_X_presenceOf_19 rfl (lv_at hl 1 rfl) ?_
    refine gf_X_C_account hx hb hts hown hK (hX.2.2.2.2.2.1 i hi) rfl d_X_presenceOf_20 ?_
    refine lv_aload_n hx hb d_X_presenceOf_23 rfl (lv_at hl 1 rfl) ?_
    refine gf_X_C_resource hx hb hts hown hK (hX.2.2.2.2.2.1 i hi) rfl d_X_presenceOf_24 ?_
    refine lv_iload_n hx hb d_X_presenceOf_27 rfl (lv_at hl 0 rfl) ?_
    refine lv_iload_n hx hb d_X_presenceOf_28 rfl (lv_at hl 3 rfl) ?_
    refine lv_iconst (v := (-1)) hx hb d_X_presenceOf_29 (by decide) ?_
    refine in_X_Z (rest := [.ref a9]) hC hW hX0 hX9 hS9 hF9 hn9 hb9 hsz9 (by omega) (by omega) (by omega) (by omega) hl.1 rfl (Nat.le_of_ble_eq_true rfl) d_X_presenceOf_30 (fun H locs hzn hX hS hF => ?_)
    have hz_2 := hzn
    exact xr_R (τ := σ) (val := (fun v H => ∃ a, v = .ref a ∧ xw_Z g B a (xm_pres σ i x y) H)) hC hW hX hS (by omega) (by omega) rfl (Or.inr ⟨_, rfl⟩) ⟨_, rfl, by unfold xm_pres; rw [if_neg c_1]; exact hz_2⟩ d_X_presenceOf_33
  · refine lv_aload_n hx hb d_X_presenceOf_5 rfl (lv_at hl 0 rfl) ?_
    refine gf_X_C_priority hx hb hts hown hK (hX.2.2.2.2.2.1 i hi) rfl d_X_presenceOf_6 ?_
    refine lv_goto (tgt := 13) hx hb d_X_presenceOf_9 (by decide) ?_
    refine lv_istore_n (lv' := [(3, .int ((xs_cn σ i).2.2.2.1)), (0, .ref (o + 36 + 3 * i)), (1, .int x), (2, .int y)]) hx hb d_X_presenceOf_13 rfl hl (by decide) rfl (fun ls hl => ?_)
    refine nw_X_Z hx hb hts hown hK hX hS (by omega) (by omega) d_X_presenceOf_14 (fun a9 H9 hn9 hb9 hsz9 hX9 hS9 hF9 => ?_)
    have hX0 := hX
    have hX := hX9
    refine lv_dup hx hb d_X_presenceOf_17 rfl ?_
    refine lv_iload_n hx hb d_X_presenceOf_18 rfl (lv_at hl 2 rfl) ?_
    refine lv_aload_n hx hb d_X_presenceOf_19 rfl (lv_at hl 1 rfl) ?_
    refine gf_X_C_account hx hb hts hown hK (hX.2.2.2.2.2.1 i hi) rfl d_X_presenceOf_20 ?_
    refine lv_aload_n hx hb d_X_presenceOf_23 rfl (lv_at hl 1 rfl) ?_
    refine gf_X_C_resource hx hb hts hown hK (hX.2.2.2.2.2.1 i hi) rfl d_X_presenceOf_24 ?_
    refine lv_iload_n hx hb d_X_presenceOf_27 rfl (lv_at hl 0 rfl) ?_
    refine lv_iload_n hx hb d_X_presenceOf_28 rfl (lv_at hl 3 rfl) ?_
    refine lv_iconst (v := (-1)) hx hb d_X_presenceOf_29 (by decide) ?_
    refine in_X_Z (rest := [.ref a9]) hC hW hX0 hX9 hS9 hF9 hn9 hb9 hsz9 (by omega) (by omega) (by omega) (by omega) hl.1 rfl (Nat.le_of_ble_eq_true rfl) d_X_presenceOf_30 (fun H locs hzn hX hS hF => ?_)
    have hz_4 := hzn
    exact xr_R (τ := σ) (val := (fun v H => ∃ a, v = .ref a ∧ xw_Z g B a (xm_pres σ i x y) H)) hC hW hX hS (by omega) (by omega) rfl (Or.inr ⟨_, rfl⟩) ⟨_, rfl, by unfold xm_pres; rw [if_pos c_1]; exact hz_4⟩ d_X_presenceOf_33
set_option maxHeartbeats 4000000 in
set_option maxRecDepth 100000 in
theorem c_X_sendToWatchers (l : Launch) (g : xw_G) (B : Nat → Prop) (o lim : Nat) (σ : xs_S) (i0 : Nat) (hi0 : i0 < 6) (x : Int32) (hvac : vp_in (xs_cn σ i0).2.1 8) : xc_V l y_X_sendToWatchers (Cond.code y_X_sendToWatchers b_X_sendToWatchers 5 none) g B o lim σ (xm_stw 8 0 σ (xs_ix (xs_cn σ i0).2.1) i0 x) [.ref o, .ref (o + 36 + 3 * i0), .int x] (fun _ => True) 6 133 16 96 := by
  refine xh_V (own := R_X) (by decide) rfl (Nat.le_of_ble_eq_true rfl) ?_
  intro p e R s m below meth c ls hRf hRl hRc hRs hC hW hE hl
  obtain ⟨hx, hb, hml, hr, hown, hts, hlk⟩ := id hC
  have hX := hW.1
  have hK := hW.2.1
  have hS : va_S (xw_A o s.heap.size) s.heap s.heap [] := va_S.rf
  have hl : lv_has ls 5 [(0, .ref o), (1, .ref (o + 36 + 3 * i0)), (2, .int x)] := hl
  refine lv_aload_n hx hb d_X_sendToWatchers_0 rfl (lv_at hl 0 rfl) ?_
  obtain ⟨v9, hXo, hXl⟩ := hX.1
  refine gf_X_X_accounts hx hb hts hown hK hXo rfl d_X_sendToWatchers_1 ?_
  refine lv_aload_n hx hb d_X_sendToWatchers_4 rfl (lv_at hl 1 rfl) ?_
  refine gf_X_C_account hx hb hts hown hK (hX.2.2.2.2.2.1 i0 hi0) rfl d_X_sendToWatchers_5 ?_
  refine xb_aald (v := o + 3 + 4 * (xs_ix ((xs_cn σ i0).2.1))) hx hb hK 0 rfl hX.2.1 hvac rfl d_X_sendToWatchers_8 ?_
  refine lv_astore_n (lv' := [(3, .ref (o + 3 + 4 * (xs_ix ((xs_cn σ i0).2.1)))), (0, .ref o), (1, .ref (o + 36 + 3 * i0)), (2, .int x)]) hx hb d_X_sendToWatchers_9 rfl hl (by decide) rfl (fun ls hl => ?_)
  refine lv_iconst (v := 0) hx hb d_X_sendToWatchers_10 (by decide) ?_
  refine lv_istore (lv' := [(4, .int 0), (3, .ref (o + 3 + 4 * (xs_ix ((xs_cn σ i0).2.1)))), (0, .ref o), (1, .ref (o + 36 + 3 * i0)), (2, .int x)]) hx hb d_X_sendToWatchers_11 hl (by decide) rfl (fun ls hl => ?_)
  have loop : ∀ (n i : Nat) (τ : xs_S) (H : Heap) (locs : List Loc) (cells slots : Nat) (ls : Array Slot), i + n = 8 → xw_R g B o τ H → va_S (xw_A o s.heap.size) s.heap H locs → cells + n * 2 ≤ 16 → slots + n * 12 ≤ 96 → lv_has ls 5 [(4, .int (nI i)), (3, .ref (o + 3 + 4 * (xs_ix ((xs_cn σ i0).2.1)))), (0, .ref o), (1, .ref (o + 36 + 3 * i0)), (2, .int x)] → xm_stw n i τ (xs_ix (xs_cn σ i0).2.1) i0 x = xm_stw 8 0 σ (xs_ix (xs_cn σ i0).2.1) i0 x → xs_cn τ = xs_cn σ → W p l e R s m ([.ref o, .ref (o + 36 + 3 * i0), .int x] : List Value).toArray below meth c H locs cells slots (MQ below (xb_V (fun t => xw_W g B o lim (xm_stw 8 0 σ (xs_ix (xs_cn σ i0).2.1) i0 x) t) (xw_A o s.heap.size)) ([.ref o, .ref (o + 36 + 3 * i0), .int x] : List Value).toArray s 16 96 (xw_A o s.heap.size)) (F0 m 13 ls []) := by
    intro n
    induction n with
    | zero =>
      intro i τ H locs cells slots ls hi hX hS  hc hs hl hres hcn
      obtain rfl : i = 8 := by omega
      refine lv_iload hx hb d_X_sendToWatchers_13 (lv_at hl 0 rfl) ?_
      refine lv_bipush (v := 8) hx hb d_X_sendToWatchers_15 (by decide) ?_
      refine lv_icmp_ge (tgt := 47) hx hb d_X_sendToWatchers_17 (by decide) (fun c_1 => ?_) (fun c_1 => absurd (nI_le (Nat.le_refl 8) (by decide)) c_1)
      exact xr_V (τ := xm_stw 8 0 σ (xs_ix (xs_cn σ i0).2.1) i0 x) hC hW hX hS (by omega) (by omega) hres d_X_sendToWatchers_47
    | succ n ih =>
      intro i τ H locs cells slots ls hi hX hS  hc hs hl hres hcn
      refine lv_iload hx hb d_X_sendToWatchers_13 (lv_at hl 0 rfl) ?_
      refine lv_bipush (v := 8) hx hb d_X_sendToWatchers_15 (by decide) ?_
      refine lv_icmp_ge (tgt := 47) hx hb d_X_sendToWatchers_17 (by decide) (fun c_2 => absurd c_2 (nI_ge (show i < 8 by omega) (by decide))) (fun c_2 => ?_)
      refine lv_aload_n hx hb d_X_sendToWatchers_20 rfl (lv_at hl 1 rfl) ?_
      refine lv_iload hx hb d_X_sendToWatchers_21 (lv_at hl 0 rfl) ?_
      refine lv_iconst (v := 2) hx hb d_X_sendToWatchers_23 (by decide) ?_
      refine xk_iQ (rest := []) (c_A_hasAny l g B o lim τ (xs_ix ((xs_cn σ i0).2.1)) (xs_ixl hvac) (nI i) i (vp_in_nI (show i < 8 by omega) (by decide)) (nI_clamp (by omega)) 2) gd_X_A_hasAny hd_A_hasAny hC hW hX hS (xb_recv hK (ci := xi_A) rfl (hX.2.2.2.1 (xs_ix ((xs_cn σ i0).2.1)) (xs_ixl hvac))) trivial (by omega) (by omega) (by omega) (by omega) hl.1 rfl (Nat.le_of_ble_eq_true rfl) d_X_sendToWatchers_24 (fun v8 H locs hv hX hS hF => ?_)
      obtain rfl := hv
      refine lv_if_eq (tgt := 41) hx hb d_X_sendToWatchers_27 (by decide) (fun c_3 => ?_) (fun c_3 => ?_)
      · have c_3 := xs_b0 c_3
        refine lv_iinc (v := nI (i + 1)) (lv' := [(4, .int (nI (i + 1))), (3, .ref (o + 3 + 4 * (xs_ix ((xs_cn σ i0).2.1)))), (0, .ref o), (1, .ref (o + 36 + 3 * i0)), (2, .int x)]) hx hb d_X_sendToWatchers_41 hl (k := 0) rfl (nI_1 _) (by decide) rfl (fun ls hl => ?_)
        refine lv_goto (tgt := 13) hx hb d_X_sendToWatchers_44 (by decide) ?_
        exact ih (i + 1) τ _ _ _ _ ls (by omega) hX hS  (by omega) (by omega) (lv_sub hl [0, 1, 2, 3, 4] rfl) (by rw [← hres]; simp only [xm_stw, c_3, if_true, if_false, reduceIte, Bool.false_eq_true, Bool.true_eq_false, and_true, true_and, and_false, false_and, or_true, true_or, or_false, false_or, not_true_eq_false, not_false_eq_true] <;> rfl) hcn
      · have c_3 := xs_b1 c_3
        refine lv_aload_n hx hb d_X_sendToWatchers_30 rfl (lv_at hl 2 rfl) ?_
        refine lv_aload_n hx hb d_X_sendToWatchers_31 rfl (lv_at hl 3 rfl) ?_
        refine lv_iload_n hx hb d_X_sendToWatchers_32 rfl (lv_at hl 4 rfl) ?_
        refine lv_iload hx hb d_X_sendToWatchers_33 (lv_at hl 0 rfl) ?_
        refine xk_sQ (rest := [.ref o]) (c_X_presenceOf l g B o lim τ i0 hi0 x (nI i)) gd_X_X_presenceOf hd_X_presenceOf hC hW hX hS trivial (by omega) (by omega) (by omega) (by omega) hl.1 rfl (Nat.le_of_ble_eq_true rfl) d_X_sendToWatchers_35 (fun v8 H locs hv hX hS hF => ?_)
        obtain ⟨b9, rfl, hz_4⟩ := hv
        obtain ⟨v9, hXo, hXl⟩ := hX.1
        refine xk_iV (rest := []) (c_X_send l g B o lim τ b9 (xm_pres τ i0 x (nI i)) ⟨(show vp_in (xs_cn τ i0).2.1 8 by rw [hcn]; exact hvac), vp_in_nI (show i < 8 by omega) (by decide)⟩) gd_X_X_send hd_X_send hC hW hX hS (xb_recv hK (ci := xi_X) rfl hXo) hz_4 (by omega) (by omega) (by omega) (by omega) hl.1 rfl (Nat.le_of_ble_eq_true rfl) d_X_sendToWatchers_38 (fun H locs hX hS hF => ?_)
        have hz_4 := hz_4.F hX.2.2.2.2.2.2.2.1 hF
        refine lv_iinc (v := nI (i + 1)) (lv' := [(4, .int (nI (i + 1))), (3, .ref (o + 3 + 4 * (xs_ix ((xs_cn σ i0).2.1)))), (0, .ref o), (1, .ref (o + 36 + 3 * i0)), (2, .int x)]) hx hb d_X_sendToWatchers_41 hl (k := 0) rfl (nI_1 _) (by decide) rfl (fun ls hl => ?_)
        refine lv_goto (tgt := 13) hx hb d_X_sendToWatchers_44 (by decide) ?_
        exact ih (i + 1) (xm_send τ (xm_pres τ i0 x (nI i))) _ _ _ _ ls (by omega) hX hS  (by omega) (by omega) (lv_sub hl [0, 1, 2, 3, 4] rfl) (by rw [← hres]; simp only [xm_stw, c_3, if_true, if_false, reduceIte, Bool.false_eq_true, Bool.true_eq_false, and_true, true_and, and_false, false_and, or_true, true_or, or_false, false_or, not_true_eq_false, not_false_eq_true] <;> rfl) (xm_same_send.2.1.trans hcn)
  exact loop 8 0 σ _ _ _ _ ls (by omega) hX hS  (by omega) (by omega) (lv_sub hl [0, 1, 2, 3, 4] rfl) rfl rfl
set_option maxHeartbeats 4000000 in
set_option maxRecDepth 100000 in
theorem c_X_sendPresences (l : Launch) (g : xw_G) (B : Nat → Prop) (o lim : Nat) (σ : xs_S) (x y k : Int32) (hvx : vp_in x 8) (hvy : vp_in y 8) : xc_V l y_X_sendPresences (Cond.code y_X_sendPresences b_X_sendPresences 8 none) g B o lim σ (xm_sp 6 0 σ x y k) [.ref o, .int x, .int y, .int k] (fun _ => True) 6 133 12 72 := by
  refine xh_V (own := R_X) (by decide) rfl (Nat.le_of_ble_eq_true rfl) ?_
  intro p e R s m below meth c ls hRf hRl hRc hRs hC hW hE hl
  obtain ⟨hx, hb, hml, hr, hown, hts, hlk⟩ := id hC
  have hX := hW.1
  have hK := hW.2.1
  have hS : va_S (xw_A o s.heap.size) s.heap s.heap [] := va_S.rf
  have hl : lv_has ls 8 [(0, .ref o), (1, .int x), (2, .int y), (3, .int k)] := hl
  refine lv_aload_n hx hb d_X_sendPresences_0 rfl (lv_at hl 0 rfl) ?_
  obtain ⟨v9, hXo, hXl⟩ := hX.1
  refine gf_X_X_connections hx hb hts hown hK hXo rfl d_X_sendPresences_1 ?_
  refine lv_astore (lv' := [(4, .ref (o + 35)), (0, .ref o), (1, .int x), (2, .int y), (3, .int k)]) hx hb d_X_sendPresences_4 hl (by decide) rfl (fun ls hl => ?_)
  refine lv_aload hx hb d_X_sendPresences_6 (lv_at hl 0 rfl) ?_
  refine xb_alen hx hb hK 1 rfl hX.2.2.1 d_X_sendPresences_8 ?_
  refine lv_istore (lv' := [(5, .int (nI 6)), (4, .ref (o + 35)), (0, .ref o), (1, .int x), (2, .int y), (3, .int k)]) hx hb d_X_sendPresences_9 hl (by decide) rfl (fun ls hl => ?_)
  refine lv_iconst (v := 0) hx hb d_X_sendPresences_11 (by decide) ?_
  refine lv_istore (lv' := [(6, .int 0), (5, .int (nI 6)), (4, .ref (o + 35)), (0, .ref o), (1, .int x), (2, .int y), (3, .int k)]) hx hb d_X_sendPresences_12 hl (by decide) rfl (fun ls hl => ?_)
  have loop : ∀ (n i : Nat) (τ : xs_S) (H : Heap) (locs : List Loc) (cells slots : Nat) (ls : Array Slot), i + n = 6 → xw_R g B o τ H → va_S (xw_A o s.heap.size) s.heap H locs → cells + n * 2 ≤ 12 → slots + n * 12 ≤ 72 → lv_has ls 8 [(6, .int (nI i)), (5, .int (nI 6)), (4, .ref (o + 35)), (0, .ref o), (1, .int x), (2, .int y), (3, .int k)] → xm_sp n i τ x y k = xm_sp 6 0 σ x y k → W p l e R s m ([.ref o, .int x, .int y, .int k] : List Value).toArray below meth c H locs cells slots (MQ below (xb_V (fun t => xw_W g B o lim (xm_sp 6 0 σ x y k) t) (xw_A o s.heap.size)) ([.ref o, .int x, .int y, .int k] : List Value).toArray s 12 72 (xw_A o s.heap.size)) (F0 m 14 ls []) := by
    intro n
    induction n with
    | zero =>
      intro i τ H locs cells slots ls hi hX hS  hc hs hl hres 
      obtain rfl : i = 6 := by omega
      refine lv_iload hx hb d_X_sendPresences_14 (lv_at hl 0 rfl) ?_
      refine lv_iload hx hb d_X_sendPresences_16 (lv_at hl 1 rfl) ?_
      refine lv_icmp_ge (tgt := 54) hx hb d_X_sendPresences_18 (by decide) (fun c_1 => ?_) (fun c_1 => absurd (nI_le (Nat.le_refl 6) (by decide)) c_1)
      exact xr_V (τ := xm_sp 6 0 σ x y k) hC hW hX hS (by omega) (by omega) hres d_X_sendPresences_54
    | succ n ih =>
      intro i τ H locs cells slots ls hi hX hS  hc hs hl hres 
      refine lv_iload hx hb d_X_sendPresences_14 (lv_at hl 0 rfl) ?_
      refine lv_iload hx hb d_X_sendPresences_16 (lv_at hl 1 rfl) ?_
      refine lv_icmp_ge (tgt := 54) hx hb d_X_sendPresences_18 (by decide) (fun c_2 => absurd c_2 (nI_ge (show i < 6 by omega) (by decide))) (fun c_2 => ?_)
      refine lv_aload hx hb d_X_sendPresences_21 (lv_at hl 2 rfl) ?_
      refine lv_iload hx hb d_X_sendPresences_23 (lv_at hl 0 rfl) ?_
      refine xb_aald (v := o + 36 + 3 * i) hx hb hK 1 rfl hX.2.2.1 (vp_in_nI (show i < 6 by omega) (by decide)) (by rw [nI_clamp (by omega)]) d_X_sendPresences_25 ?_
      refine lv_astore (lv' := [(7, .ref (o + 36 + 3 * i)), (6, .int (nI i)), (5, .int (nI 6)), (4, .ref (o + 35)), (0, .ref o), (1, .int x), (2, .int y), (3, .int k)]) hx hb d_X_sendPresences_26 hl (by decide) rfl (fun ls hl => ?_)
      refine lv_aload hx hb d_X_sendPresences_28 (lv_at hl 0 rfl) ?_
      refine lv_iload_n hx hb d_X_sendPresences_30 rfl (lv_at hl 5 rfl) ?_
      refine xk_iQ (rest := []) (c_C_isAvailableFor l g B o lim τ i (show i < 6 by omega) x) gd_X_C_isAvailableFor hd_C_isAvailableFor hC hW hX hS (xb_recv hK (ci := xi_C) rfl (hX.2.2.2.2.2.1 i (show i < 6 by omega))) trivial (by omega) (by omega) (by omega) (by omega) hl.1 rfl (Nat.le_of_ble_eq_true rfl) d_X_sendPresences_31 (fun v8 H locs hv hX hS hF => ?_)
      obtain rfl := hv
      refine lv_if_eq (tgt := 48) hx hb d_X_sendPresences_34 (by decide) (fun c_3 => ?_) (fun c_3 => ?_)
      · have c_3 := xs_b0 c_3
        refine lv_iinc (v := nI (i + 1)) (lv' := [(6, .int (nI (i + 1))), (7, .ref (o + 36 + 3 * i)), (5, .int (nI 6)), (4, .ref (o + 35)), (0, .ref o), (1, .int x), (2, .int y), (3, .int k)]) hx hb d_X_sendPresences_48 hl (k := 1) rfl (nI_1 _) (by decide) rfl (fun ls hl => ?_)
        refine lv_goto (tgt := 14) hx hb d_X_sendPresences_51 (by decide) ?_
        exact ih (i + 1) τ _ _ _ _ ls (by omega) hX hS  (by omega) (by omega) (lv_sub hl [0, 2, 3, 4, 5, 6, 7] rfl) (by rw [← hres]; simp only [xm_sp, c_3, if_true, if_false, reduceIte, Bool.false_eq_true, Bool.true_eq_false, and_true, true_and, and_false, false_and, or_true, true_or, or_false, false_or, not_true_eq_false, not_false_eq_true] <;> rfl) 
      · have c_3 := xs_b1 c_3
        refine lv_aload_n hx hb d_X_sendPresences_37 rfl (lv_at hl 4 rfl) ?_
        refine lv_aload hx hb d_X_sendPresences_38 (lv_at hl 0 rfl) ?_
        refine lv_iload_n hx hb d_X_sendPresences_40 rfl (lv_at hl 7 rfl) ?_
        refine lv_iload_n hx hb d_X_sendPresences_41 rfl (lv_at hl 6 rfl) ?_
        refine xk_sQ (rest := [.ref o]) (c_X_presenceOf l g B o lim τ i (show i < 6 by omega) k y) gd_X_X_presenceOf hd_X_presenceOf hC hW hX hS trivial (by omega) (by omega) (by omega) (by omega) hl.1 rfl (Nat.le_of_ble_eq_true rfl) d_X_sendPresences_42 (fun v8 H locs hv hX hS hF => ?_)
        obtain ⟨b9, rfl, hz_4⟩ := hv
        obtain ⟨v9, hXo, hXl⟩ := hX.1
        refine xk_iV (rest := []) (c_X_send l g B o lim τ b9 (xm_pres τ i k y) ⟨(show vp_in (xs_cn τ i).2.1 8 by rw [xm_av_ac c_3]; exact hvx), hvy⟩) gd_X_X_send hd_X_send hC hW hX hS (xb_recv hK (ci := xi_X) rfl hXo) hz_4 (by omega) (by omega) (by omega) (by omega) hl.1 rfl (Nat.le_of_ble_eq_true rfl) d_X_sendPresences_45 (fun H locs hX hS hF => ?_)
        have hz_4 := hz_4.F hX.2.2.2.2.2.2.2.1 hF
        refine lv_iinc (v := nI (i + 1)) (lv' := [(6, .int (nI (i + 1))), (7, .ref (o + 36 + 3 * i)), (5, .int (nI 6)), (4, .ref (o + 35)), (0, .ref o), (1, .int x), (2, .int y), (3, .int k)]) hx hb d_X_sendPresences_48 hl (k := 1) rfl (nI_1 _) (by decide) rfl (fun ls hl => ?_)
        refine lv_goto (tgt := 14) hx hb d_X_sendPresences_51 (by decide) ?_
        exact ih (i + 1) (xm_send τ (xm_pres τ i k y)) _ _ _ _ ls (by omega) hX hS  (by omega) (by omega) (lv_sub hl [0, 2, 3, 4, 5, 6, 7] rfl) (by rw [← hres]; simp only [xm_sp, c_3, if_true, if_false, reduceIte, Bool.false_eq_true, Bool.true_eq_false, and_true, true_and, and_false, false_and, or_true, true_or, or_false, false_or, not_true_eq_false, not_false_eq_true] <;> rfl) 
  exact loop 6 0 σ _ _ _ _ ls (by omega) hX hS  (by omega) (by omega) (lv_sub hl [0, 1, 2, 3, 4, 5, 6] rfl) rfl 
set_option maxHeartbeats 4000000 in
set_option maxRecDepth 100000 in
theorem c_X_showConnectionsOf (l : Launch) (g : xw_G) (B : Nat → Prop) (o lim : Nat) (σ : xs_S) (x : Int32) (i0 : Nat) (hi0 : i0 < 6) : xc_V l y_X_showConnectionsOf (Cond.code y_X_showConnectionsOf b_X_showConnectionsOf 7 none) g B o lim σ (xm_sco 6 0 σ x i0) [.ref o, .int x, .ref (o + 36 + 3 * i0)] (fun _ => True) 3 69 6 36 := by
  refine xh_V (own := R_X) (by decide) rfl (Nat.le_of_ble_eq_true rfl) ?_
  intro p e R s m below meth c ls hRf hRl hRc hRs hC hW hE hl
  obtain ⟨hx, hb, hml, hr, hown, hts, hlk⟩ := id hC
  have hX := hW.1
  have hK := hW.2.1
  have hS : va_S (xw_A o s.heap.size) s.heap s.heap [] := va_S.rf
  have hl : lv_has ls 7 [(0, .ref o), (1, .int x), (2, .ref (o + 36 + 3 * i0))] := hl
  refine lv_aload_n hx hb d_X_showConnectionsOf_0 rfl (lv_at hl 0 rfl) ?_
  obtain ⟨v9, hXo, hXl⟩ := hX.1
  refine gf_X_X_connections hx hb hts hown hK hXo rfl d_X_showConnectionsOf_1 ?_
  refine lv_astore_n (lv' := [(3, .ref (o + 35)), (0, .ref o), (1, .int x), (2, .ref (o + 36 + 3 * i0))]) hx hb d_X_showConnectionsOf_4 rfl hl (by decide) rfl (fun ls hl => ?_)
  refine lv_aload_n hx hb d_X_showConnectionsOf_5 rfl (lv_at hl 0 rfl) ?_
  refine xb_alen hx hb hK 1 rfl hX.2.2.1 d_X_showConnectionsOf_6 ?_
  refine lv_istore (lv' := [(4, .int (nI 6)), (3, .ref (o + 35)), (0, .ref o), (1, .int x), (2, .ref (o + 36 + 3 * i0))]) hx hb d_X_showConnectionsOf_7 hl (by decide) rfl (fun ls hl => ?_)
  refine lv_iconst (v := 0) hx hb d_X_showConnectionsOf_9 (by decide) ?_
  refine lv_istore (lv' := [(5, .int 0), (4, .int (nI 6)), (3, .ref (o + 35)), (0, .ref o), (1, .int x), (2, .ref (o + 36 + 3 * i0))]) hx hb d_X_showConnectionsOf_10 hl (by decide) rfl (fun ls hl => ?_)
  have loop : ∀ (n i : Nat) (τ : xs_S) (H : Heap) (locs : List Loc) (cells slots : Nat) (ls : Array Slot), i + n = 6 → xw_R g B o τ H → va_S (xw_A o s.heap.size) s.heap H locs → cells + n * 1 ≤ 6 → slots + n * 6 ≤ 36 → lv_has ls 7 [(5, .int (nI i)), (4, .int (nI 6)), (3, .ref (o + 35)), (0, .ref o), (1, .int x), (2, .ref (o + 36 + 3 * i0))] → xm_sco n i τ x i0 = xm_sco 6 0 σ x i0 → W p l e R s m ([.ref o, .int x, .ref (o + 36 + 3 * i0)] : List Value).toArray below meth c H locs cells slots (MQ below (xb_V (fun t => xw_W g B o lim (xm_sco 6 0 σ x i0) t) (xw_A o s.heap.size)) ([.ref o, .int x, .ref (o + 36 + 3 * i0)] : List Value).toArray s 6 36 (xw_A o s.heap.size)) (F0 m 12 ls []) := by
    intro n
    induction n with
    | zero =>
      intro i τ H locs cells slots ls hi hX hS  hc hs hl hres 
      obtain rfl : i = 6 := by omega
      refine lv_iload hx hb d_X_showConnectionsOf_12 (lv_at hl 0 rfl) ?_
      refine lv_iload hx hb d_X_showConnectionsOf_14 (lv_at hl 1 rfl) ?_
      refine lv_icmp_ge (tgt := 57) hx hb d_X_showConnectionsOf_16 (by decide) (fun c_1 => ?_) (fun c_1 => absurd (nI_le (Nat.le_refl 6) (by decide)) c_1)
      exact xr_V (τ := xm_sco 6 0 σ x i0) hC hW hX hS (by omega) (by omega) hres d_X_showConnectionsOf_57
    | succ n ih =>
      intro i τ H locs cells slots ls hi hX hS  hc hs hl hres 
      refine lv_iload hx hb d_X_showConnectionsOf_12 (lv_at hl 0 rfl) ?_
      refine lv_iload hx hb d_X_showConnectionsOf_14 (lv_at hl 1 rfl) ?_
      refine lv_icmp_ge (tgt := 57) hx hb d_X_showConnectionsOf_16 (by decide) (fun c_2 => absurd c_2 (nI_ge (show i < 6 by omega) (by decide))) (fun c_2 => ?_)
      refine lv_aload_n hx hb d_X_showConnectionsOf_19 rfl (lv_at hl 2 rfl) ?_
      refine lv_iload hx hb d_X_showConnectionsOf_20 (lv_at hl 0 rfl) ?_
      refine xb_aald (v := o + 36 + 3 * i) hx hb hK 1 rfl hX.2.2.1 (vp_in_nI (show i < 6 by omega) (by decide)) (by rw [nI_clamp (by omega)]) d_X_showConnectionsOf_22 ?_
      refine lv_astore (lv' := [(6, .ref (o + 36 + 3 * i)), (5, .int (nI i)), (4, .int (nI 6)), (3, .ref (o + 35)), (0, .ref o), (1, .int x), (2, .ref (o + 36 + 3 * i0))]) hx hb d_X_showConnectionsOf_23 hl (by decide) rfl (fun ls hl => ?_)
      refine lv_aload hx hb d_X_showConnectionsOf_25 (lv_at hl 0 rfl) ?_
      refine lv_iload_n hx hb d_X_showConnectionsOf_27 rfl (lv_at hl 5 rfl) ?_
      refine xk_iQ (rest := []) (c_C_isAvailableFor l g B o lim τ i (show i < 6 by omega) x) gd_X_C_isAvailableFor hd_C_isAvailableFor hC hW hX hS (xb_recv hK (ci := xi_C) rfl (hX.2.2.2.2.2.1 i (show i < 6 by omega))) trivial (by omega) (by omega) (by omega) (by omega) hl.1 rfl (Nat.le_of_ble_eq_true rfl) d_X_showConnectionsOf_28 (fun v8 H locs hv hX hS hF => ?_)
      obtain rfl := hv
      refine lv_if_eq (tgt := 51) hx hb d_X_showConnectionsOf_31 (by decide) (fun c_3 => ?_) (fun c_3 => ?_)
      · have c_3 := xs_b0 c_3
        refine lv_iinc (v := nI (i + 1)) (lv' := [(5, .int (nI (i + 1))), (6, .ref (o + 36 + 3 * i)), (4, .int (nI 6)), (3, .ref (o + 35)), (0, .ref o), (1, .int x), (2, .ref (o + 36 + 3 * i0))]) hx hb d_X_showConnectionsOf_51 hl (k := 1) rfl (nI_1 _) (by decide) rfl (fun ls hl => ?_)
        refine lv_goto (tgt := 12) hx hb d_X_showConnectionsOf_54 (by decide) ?_
        exact ih (i + 1) τ _ _ _ _ ls (by omega) hX hS  (by omega) (by omega) (lv_sub hl [0, 2, 3, 4, 5, 6] rfl) (by rw [← hres]; simp only [xm_sco, c_3, if_true, if_false, reduceIte, Bool.false_eq_true, Bool.true_eq_false, and_true, true_and, and_false, false_and, or_true, true_or, or_false, false_or, not_true_eq_false, not_false_eq_true] <;> rfl) 
      · have c_3 := xs_b1 c_3
        refine lv_aload_n hx hb d_X_showConnectionsOf_34 rfl (lv_at hl 6 rfl) ?_
        refine gf_X_C_inbox hx hb hts hown hK (hX.2.2.2.2.2.1 i0 hi0) rfl d_X_showConnectionsOf_35 ?_
        refine lv_aload hx hb d_X_showConnectionsOf_38 (lv_at hl 0 rfl) ?_
        refine lv_iconst (v := 2) hx hb d_X_showConnectionsOf_40 (by decide) ?_
        refine lv_aload_n hx hb d_X_showConnectionsOf_41 rfl (lv_at hl 6 rfl) ?_
        refine gf_X_C_account hx hb hts hown hK (hX.2.2.2.2.2.1 i0 hi0) rfl d_X_showConnectionsOf_42 ?_
        refine xk_sQ (rest := [.ref (o + xs_qo (8 + i0))]) (c_X_presenceOf l g B o lim τ i (show i < 6 by omega) 2 ((xs_cn τ i0).2.1)) gd_X_X_presenceOf hd_X_presenceOf hC hW hX hS trivial (by omega) (by omega) (by omega) (by omega) hl.1 rfl (Nat.le_of_ble_eq_true rfl) d_X_showConnectionsOf_45 (fun v8 H locs hv hX hS hF => ?_)
        obtain ⟨b9, rfl, hz_4⟩ := hv
        obtain ⟨f9, hq9, hl9, hz9⟩ := hX.2.2.2.2.2.2.1 (8 + i0) (xs_8 hi0)
        refine xk_iV (rest := []) (c_Q_add l g B o lim τ (8 + i0) (xs_8 hi0) b9 (xm_pres τ i 2 ((xs_cn τ i0).2.1))) gd_X_Q_add hd_Q_add hC hW hX hS (xb_recv hK (ci := xi_Q) rfl hq9.1) hz_4 (by omega) (by omega) (by omega) (by omega) hl.1 rfl (Nat.le_of_ble_eq_true rfl) d_X_showConnectionsOf_48 (fun H locs hX hS hF => ?_)
        have hz_4 := hz_4.F hX.2.2.2.2.2.2.2.1 hF
        refine lv_iinc (v := nI (i + 1)) (lv' := [(5, .int (nI (i + 1))), (6, .ref (o + 36 + 3 * i)), (4, .int (nI 6)), (3, .ref (o + 35)), (0, .ref o), (1, .int x), (2, .ref (o + 36 + 3 * i0))]) hx hb d_X_showConnectionsOf_51 hl (k := 1) rfl (nI_1 _) (by decide) rfl (fun ls hl => ?_)
        refine lv_goto (tgt := 12) hx hb d_X_showConnectionsOf_54 (by decide) ?_
        exact ih (i + 1) (xm_add τ (8 + i0) (xm_pres τ i 2 ((xs_cn τ i0).2.1))) _ _ _ _ ls (by omega) hX hS  (by omega) (by omega) (lv_sub hl [0, 2, 3, 4, 5, 6] rfl) (by rw [← hres]; simp only [xm_sco, c_3, if_true, if_false, reduceIte, Bool.false_eq_true, Bool.true_eq_false, and_true, true_and, and_false, false_and, or_true, true_or, or_false, false_or, not_true_eq_false, not_false_eq_true] <;> rfl) 
  exact loop 6 0 σ _ _ _ _ ls (by omega) hX hS  (by omega) (by omega) (lv_sub hl [0, 1, 2, 3, 4, 5] rfl) rfl 
set_option maxHeartbeats 4000000 in
set_option maxRecDepth 100000 in
theorem c_X_showOthers (l : Launch) (g : xw_G) (B : Nat → Prop) (o lim : Nat) (σ : xs_S) (i0 : Nat) (hi0 : i0 < 6) (hvac : vp_in (xs_cn σ i0).2.1 8) : xc_V l y_X_showOthers (Cond.code y_X_showOthers b_X_showOthers 4 none) g B o lim σ (xm_so 8 0 σ (xs_ix (xs_cn σ i0).2.1) i0) [.ref o, .ref (o + 36 + 3 * i0)] (fun _ => True) 4 95 48 288 := by
  refine xh_V (own := R_X) (by decide) rfl (Nat.le_of_ble_eq_true rfl) ?_
  intro p e R s m below meth c ls hRf hRl hRc hRs hC hW hE hl
  obtain ⟨hx, hb, hml, hr, hown, hts, hlk⟩ := id hC
  have hX := hW.1
  have hK := hW.2.1
  have hS : va_S (xw_A o s.heap.size) s.heap s.heap [] := va_S.rf
  have hl : lv_has ls 4 [(0, .ref o), (1, .ref (o + 36 + 3 * i0))] := hl
  refine lv_aload_n hx hb d_X_showOthers_0 rfl (lv_at hl 0 rfl) ?_
  obtain ⟨v9, hXo, hXl⟩ := hX.1
  refine gf_X_X_accounts hx hb hts hown hK hXo rfl d_X_showOthers_1 ?_
  refine lv_aload_n hx hb d_X_showOthers_4 rfl (lv_at hl 1 rfl) ?_
  refine gf_X_C_account hx hb hts hown hK (hX.2.2.2.2.2.1 i0 hi0) rfl d_X_showOthers_5 ?_
  refine xb_aald (v := o + 3 + 4 * (xs_ix ((xs_cn σ i0).2.1))) hx hb hK 0 rfl hX.2.1 hvac rfl d_X_showOthers_8 ?_
  refine lv_astore_n (lv' := [(2, .ref (o + 3 + 4 * (xs_ix ((xs_cn σ i0).2.1)))), (0, .ref o), (1, .ref (o + 36 + 3 * i0))]) hx hb d_X_showOthers_9 rfl hl (by decide) rfl (fun ls hl => ?_)
  refine lv_iconst (v := 0) hx hb d_X_showOthers_10 (by decide) ?_
  refine lv_istore_n (lv' := [(3, .int 0), (2, .ref (o + 3 + 4 * (xs_ix ((xs_cn σ i0).2.1)))), (0, .ref o), (1, .ref (o + 36 + 3 * i0))]) hx hb d_X_showOthers_11 rfl hl (by decide) rfl (fun ls hl => ?_)
  have loop : ∀ (n i : Nat) (τ : xs_S) (H : Heap) (locs : List Loc) (cells slots : Nat) (ls : Array Slot), i + n = 8 → xw_R g B o τ H → va_S (xw_A o s.heap.size) s.heap H locs → cells + n * 6 ≤ 48 → slots + n * 36 ≤ 288 → lv_has ls 4 [(3, .int (nI i)), (2, .ref (o + 3 + 4 * (xs_ix ((xs_cn σ i0).2.1)))), (0, .ref o), (1, .ref (o + 36 + 3 * i0))] → xm_so n i τ (xs_ix (xs_cn σ i0).2.1) i0 = xm_so 8 0 σ (xs_ix (xs_cn σ i0).2.1) i0 → W p l e R s m ([.ref o, .ref (o + 36 + 3 * i0)] : List Value).toArray below meth c H locs cells slots (MQ below (xb_V (fun t => xw_W g B o lim (xm_so 8 0 σ (xs_ix (xs_cn σ i0).2.1) i0) t) (xw_A o s.heap.size)) ([.ref o, .ref (o + 36 + 3 * i0)] : List Value).toArray s 48 288 (xw_A o s.heap.size)) (F0 m 12 ls []) := by
    intro n
    induction n with
    | zero =>
      intro i τ H locs cells slots ls hi hX hS  hc hs hl hres 
      obtain rfl : i = 8 := by omega
      refine lv_iload_n hx hb d_X_showOthers_12 rfl (lv_at hl 0 rfl) ?_
      refine lv_bipush (v := 8) hx hb d_X_showOthers_13 (by decide) ?_
      refine lv_icmp_ge (tgt := 51) hx hb d_X_showOthers_15 (by decide) (fun c_1 => ?_) (fun c_1 => absurd (nI_le (Nat.le_refl 8) (by decide)) c_1)
      exact xr_V (τ := xm_so 8 0 σ (xs_ix (xs_cn σ i0).2.1) i0) hC hW hX hS (by omega) (by omega) hres d_X_showOthers_51
    | succ n ih =>
      intro i τ H locs cells slots ls hi hX hS  hc hs hl hres 
      refine lv_iload_n hx hb d_X_showOthers_12 rfl (lv_at hl 0 rfl) ?_
      refine lv_bipush (v := 8) hx hb d_X_showOthers_13 (by decide) ?_
      refine lv_icmp_ge (tgt := 51) hx hb d_X_showOthers_15 (by decide) (fun c_2 => absurd c_2 (nI_ge (show i < 8 by omega) (by decide))) (fun c_2 => ?_)
      refine lv_aload_n hx hb d_X_showOthers_18 rfl (lv_at hl 1 rfl) ?_
      refine lv_iload_n hx hb d_X_showOthers_19 rfl (lv_at hl 0 rfl) ?_
      refine lv_iconst (v := 1) hx hb d_X_showOthers_20 (by decide) ?_
      refine xk_iQ (rest := []) (c_A_hasAny l g B o lim τ (xs_ix ((xs_cn σ i0).2.1)) (xs_ixl hvac) (nI i) i (vp_in_nI (show i < 8 by omega) (by decide)) (nI_clamp (by omega)) 1) gd_X_A_hasAny hd_A_hasAny hC hW hX hS (xb_recv hK (ci := xi_A) rfl (hX.2.2.2.1 (xs_ix ((xs_cn σ i0).2.1)) (xs_ixl hvac))) trivial (by omega) (by omega) (by omega) (by omega) hl.1 rfl (Nat.le_of_ble_eq_true rfl) d_X_showOthers_21 (fun v8 H locs hv hX hS hF => ?_)
      obtain rfl := hv
      refine lv_if_eq (tgt := 45) hx hb d_X_showOthers_24 (by decide) (fun c_3 => ?_) (fun c_3 => ?_)
      · have c_3 := xs_b0 c_3
        refine lv_iinc (v := nI (i + 1)) (lv' := [(3, .int (nI (i + 1))), (2, .ref (o + 3 + 4 * (xs_ix ((xs_cn σ i0).2.1)))), (0, .ref o), (1, .ref (o + 36 + 3 * i0))]) hx hb d_X_showOthers_45 hl (k := 0) rfl (nI_1 _) (by decide) rfl (fun ls hl => ?_)
        refine lv_goto (tgt := 12) hx hb d_X_showOthers_48 (by decide) ?_
        exact ih (i + 1) τ _ _ _ _ ls (by omega) hX hS  (by omega) (by omega) (lv_sub hl [0, 1, 2, 3] rfl) (by rw [← hres]; simp only [xm_so, c_3, if_true, if_false, reduceIte, Bool.false_eq_true, Bool.true_eq_false, and_true, true_and, and_false, false_and, or_true, true_or, or_false, false_or, not_true_eq_false, not_false_eq_true] <;> rfl) 
      · have c_3 := xs_b1 c_3
        refine lv_aload_n hx hb d_X_showOthers_27 rfl (lv_at hl 2 rfl) ?_
        refine lv_aload_n hx hb d_X_showOthers_28 rfl (lv_at hl 3 rfl) ?_
        refine gf_X_C_account hx hb hts hown hK (hX.2.2.2.2.2.1 i0 hi0) rfl d_X_showOthers_29 ?_
        refine lv_iload_n hx hb d_X_showOthers_32 rfl (lv_at hl 0 rfl) ?_
        obtain ⟨v9, hXo, hXl⟩ := hX.1
        refine xk_iQ (rest := []) (c_X_canReach l g B o lim τ ((xs_cn τ i0).2.1) (nI i)) gd_X_X_canReach hd_X_canReach hC hW hX hS (xb_recv hK (ci := xi_X) rfl hXo) trivial (by omega) (by omega) (by omega) (by omega) hl.1 rfl (Nat.le_of_ble_eq_true rfl) d_X_showOthers_33 (fun v8 H locs hv hX hS hF => ?_)
        obtain rfl := hv
        refine lv_if_eq (tgt := 45) hx hb d_X_showOthers_36 (by decide) (fun c_4 => ?_) (fun c_4 => ?_)
        · have c_4 := xs_b0 c_4
          refine lv_iinc (v := nI (i + 1)) (lv' := [(3, .int (nI (i + 1))), (2, .ref (o + 3 + 4 * (xs_ix ((xs_cn σ i0).2.1)))), (0, .ref o), (1, .ref (o + 36 + 3 * i0))]) hx hb d_X_showOthers_45 hl (k := 0) rfl (nI_1 _) (by decide) rfl (fun ls hl => ?_)
          refine lv_goto (tgt := 12) hx hb d_X_showOthers_48 (by decide) ?_
          exact ih (i + 1) τ _ _ _ _ ls (by omega) hX hS  (by omega) (by omega) (lv_sub hl [0, 1, 2, 3] rfl) (by rw [← hres]; simp only [xm_so, c_3, c_4, if_true, if_false, reduceIte, Bool.false_eq_true, Bool.true_eq_false, and_true, true_and, and_false, false_and, or_true, true_or, or_false, false_or, not_true_eq_false, not_false_eq_true] <;> rfl) 
        · have c_4 := xs_b1 c_4
          refine lv_aload_n hx hb d_X_showOthers_39 rfl (lv_at hl 2 rfl) ?_
          refine lv_iload_n hx hb d_X_showOthers_40 rfl (lv_at hl 0 rfl) ?_
          refine lv_aload_n hx hb d_X_showOthers_41 rfl (lv_at hl 3 rfl) ?_
          obtain ⟨v9, hXo, hXl⟩ := hX.1
          refine xk_iV (rest := []) (c_X_showConnectionsOf l g B o lim τ (nI i) i0 hi0) gd_X_X_showConnectionsOf hd_X_showConnectionsOf hC hW hX hS (xb_recv hK (ci := xi_X) rfl hXo) trivial (by omega) (by omega) (by omega) (by omega) hl.1 rfl (Nat.le_of_ble_eq_true rfl) d_X_showOthers_42 (fun H locs hX hS hF => ?_)
          refine lv_iinc (v := nI (i + 1)) (lv' := [(3, .int (nI (i + 1))), (2, .ref (o + 3 + 4 * (xs_ix ((xs_cn σ i0).2.1)))), (0, .ref o), (1, .ref (o + 36 + 3 * i0))]) hx hb d_X_showOthers_45 hl (k := 0) rfl (nI_1 _) (by decide) rfl (fun ls hl => ?_)
          refine lv_goto (tgt := 12) hx hb d_X_showOthers_48 (by decide) ?_
          exact ih (i + 1) (xm_sco 6 0 τ (nI i) i0) _ _ _ _ ls (by omega) hX hS  (by omega) (by omega) (lv_sub hl [0, 1, 2, 3] rfl) (by rw [← hres]; simp only [xm_so, c_3, c_4, if_true, if_false, reduceIte, Bool.false_eq_true, Bool.true_eq_false, and_true, true_and, and_false, false_and, or_true, true_or, or_false, false_or, not_true_eq_false, not_false_eq_true] <;> rfl) 
  exact loop 8 0 σ _ _ _ _ ls (by omega) hX hS  (by omega) (by omega) (lv_sub hl [0, 1, 2, 3] rfl) rfl 
set_option maxHeartbeats 4000000 in
set_option maxRecDepth 100000 in
theorem c_X_handOverKept (l : Launch) (g : xw_G) (B : Nat → Prop) (o lim : Nat) (σ : xs_S) (i0 : Nat) (hi0 : i0 < 6) (hvac : vp_in (xs_cn σ i0).2.1 8) : xc_V l y_X_handOverKept (Cond.code y_X_handOverKept b_X_handOverKept 5 none) g B o lim σ (xm_hk (xs_q σ (xs_ix (xs_cn σ i0).2.1)).length σ (xs_ix (xs_cn σ i0).2.1) i0) [.ref o, .ref (o + 36 + 3 * i0)] (fun _ => True) 1 22 0 0 := by
  refine xh_V (own := R_X) (by decide) rfl (Nat.le_of_ble_eq_true rfl) ?_
  intro p e R s m below meth c ls hRf hRl hRc hRs hC hW hE hl
  obtain ⟨hx, hb, hml, hr, hown, hts, hlk⟩ := id hC
  have hX := hW.1
  have hK := hW.2.1
  have hS : va_S (xw_A o s.heap.size) s.heap s.heap [] := va_S.rf
  have hl : lv_has ls 5 [(0, .ref o), (1, .ref (o + 36 + 3 * i0))] := hl
  have hN31 : (xs_q σ (xs_ix (xs_cn σ i0).2.1)).length < 2 ^ 31 := by obtain ⟨f9, hq9, hl9, hz9⟩ := hX.2.2.2.2.2.2.1 _ (Nat.lt_of_lt_of_le (xs_ixl hvac) (by decide)); exact Nat.lt_of_le_of_lt (Nat.le_trans hl9 (xs_rml _)) (by decide)
  refine lv_aload_n hx hb d_X_handOverKept_0 rfl (lv_at hl 0 rfl) ?_
  obtain ⟨v9, hXo, hXl⟩ := hX.1
  refine gf_X_X_accounts hx hb hts hown hK hXo rfl d_X_handOverKept_1 ?_
  refine lv_aload_n hx hb d_X_handOverKept_4 rfl (lv_at hl 1 rfl) ?_
  refine gf_X_C_account hx hb hts hown hK (hX.2.2.2.2.2.1 i0 hi0) rfl d_X_handOverKept_5 ?_
  refine xb_aald (v := o + 3 + 4 * (xs_ix ((xs_cn σ i0).2.1))) hx hb hK 0 rfl hX.2.1 hvac rfl d_X_handOverKept_8 ?_
  refine gf_X_A_kept hx hb hts hown hK (hX.2.2.2.1 (xs_ix ((xs_cn σ i0).2.1)) (xs_ixl hvac)) rfl d_X_handOverKept_9 ?_
  refine lv_astore_n (lv' := [(2, .ref (o + xs_qo (xs_ix ((xs_cn σ i0).2.1)))), (0, .ref o), (1, .ref (o + 36 + 3 * i0))]) hx hb d_X_handOverKept_12 rfl hl (by decide) rfl (fun ls hl => ?_)
  refine lv_aload_n hx hb d_X_handOverKept_13 rfl (lv_at hl 0 rfl) ?_
  obtain ⟨f9, hq9, hl9, hz9⟩ := hX.2.2.2.2.2.2.1 (xs_ix ((xs_cn σ i0).2.1)) (Nat.lt_of_lt_of_le (xs_ixl hvac) (by decide))
  refine gf_X_Q_size hx hb hts hown hK hq9.1 rfl d_X_handOverKept_14 ?_
  refine lv_istore_n (lv' := [(3, .int (nI (xs_q σ (xs_ix ((xs_cn σ i0).2.1))).length)), (2, .ref (o + xs_qo (xs_ix ((xs_cn σ i0).2.1)))), (0, .ref o), (1, .ref (o + 36 + 3 * i0))]) hx hb d_X_handOverKept_17 rfl hl (by decide) rfl (fun ls hl => ?_)
  refine lv_iconst (v := 0) hx hb d_X_handOverKept_18 (by decide) ?_
  refine lv_istore (lv' := [(4, .int 0), (3, .int (nI (xs_q σ (xs_ix ((xs_cn σ i0).2.1))).length)), (2, .ref (o + xs_qo (xs_ix ((xs_cn σ i0).2.1)))), (0, .ref o), (1, .ref (o + 36 + 3 * i0))]) hx hb d_X_handOverKept_19 hl (by decide) rfl (fun ls hl => ?_)
  have loop : ∀ (n i : Nat) (τ : xs_S) (H : Heap) (locs : List Loc) (cells slots : Nat) (ls : Array Slot), i + n = (xs_q σ (xs_ix (xs_cn σ i0).2.1)).length → xw_R g B o τ H → va_S (xw_A o s.heap.size) s.heap H locs → cells + n * 0 ≤ 0 → slots + n * 0 ≤ 0 → lv_has ls 5 [(4, .int (nI i)), (3, .int (nI (xs_q σ (xs_ix ((xs_cn σ i0).2.1))).length)), (2, .ref (o + xs_qo (xs_ix ((xs_cn σ i0).2.1)))), (0, .ref o), (1, .ref (o + 36 + 3 * i0))] → xm_hk n τ (xs_ix (xs_cn σ i0).2.1) i0 = xm_hk (xs_q σ (xs_ix (xs_cn σ i0).2.1)).length σ (xs_ix (xs_cn σ i0).2.1) i0 → (xs_q τ (xs_ix (xs_cn σ i0).2.1)).length = n → W p l e R s m ([.ref o, .ref (o + 36 + 3 * i0)] : List Value).toArray below meth c H locs cells slots (MQ below (xb_V (fun t => xw_W g B o lim (xm_hk (xs_q σ (xs_ix (xs_cn σ i0).2.1)).length σ (xs_ix (xs_cn σ i0).2.1) i0) t) (xw_A o s.heap.size)) ([.ref o, .ref (o + 36 + 3 * i0)] : List Value).toArray s 0 0 (xw_A o s.heap.size)) (F0 m 21 ls []) := by
    intro n
    induction n with
    | zero =>
      intro i τ H locs cells slots ls hi hX hS  hc hs hl hres hln
      obtain rfl : i = (xs_q σ (xs_ix (xs_cn σ i0).2.1)).length := by omega
      refine lv_iload hx hb d_X_handOverKept_21 (lv_at hl 0 rfl) ?_
      refine lv_iload_n hx hb d_X_handOverKept_23 rfl (lv_at hl 1 rfl) ?_
      refine lv_icmp_ge (tgt := 44) hx hb d_X_handOverKept_24 (by decide) (fun c_1 => ?_) (fun c_1 => absurd (nI_le (Nat.le_refl ((xs_q σ (xs_ix (xs_cn σ i0).2.1)).length)) hN31) c_1)
      exact xr_V (τ := xm_hk (xs_q σ (xs_ix (xs_cn σ i0).2.1)).length σ (xs_ix (xs_cn σ i0).2.1) i0) hC hW hX hS (by omega) (by omega) hres d_X_handOverKept_44
    | succ n ih =>
      intro i τ H locs cells slots ls hi hX hS  hc hs hl hres hln
      refine lv_iload hx hb d_X_handOverKept_21 (lv_at hl 0 rfl) ?_
      refine lv_iload_n hx hb d_X_handOverKept_23 rfl (lv_at hl 1 rfl) ?_
      refine lv_icmp_ge (tgt := 44) hx hb d_X_handOverKept_24 (by decide) (fun c_2 => absurd c_2 (nI_ge (show i < (xs_q σ (xs_ix (xs_cn σ i0).2.1)).length by omega) hN31)) (fun c_2 => ?_)
      refine lv_aload_n hx hb d_X_handOverKept_27 rfl (lv_at hl 4 rfl) ?_
      refine gf_X_C_inbox hx hb hts hown hK (hX.2.2.2.2.2.1 i0 hi0) rfl d_X_handOverKept_28 ?_
      refine lv_aload_n hx hb d_X_handOverKept_31 rfl (lv_at hl 2 rfl) ?_
      have hne : ∃ z t, xs_q τ (xs_ix (xs_cn σ i0).2.1) = z :: t := xm_ne hln
      obtain ⟨f9, hq9, hl9, hz9⟩ := hX.2.2.2.2.2.2.1 (xs_ix ((xs_cn σ i0).2.1)) (Nat.lt_of_lt_of_le (xs_ixl hvac) (by decide))
      refine xk_iQ (rest := [.ref (o + xs_qo (8 + i0))]) (c_Q_removeFirst l g B o lim τ (xs_ix ((xs_cn σ i0).2.1)) (Nat.lt_of_lt_of_le (xs_ixl hvac) (by decide)) hne) gd_X_Q_removeFirst hd_Q_removeFirst hC hW hX hS (xb_recv hK (ci := xi_Q) rfl hq9.1) trivial (by omega) (by omega) (by omega) (by omega) hl.1 rfl (Nat.le_of_ble_eq_true rfl) d_X_handOverKept_32 (fun v8 H locs hv hX hS hF => ?_)
      obtain ⟨b9, rfl, hz_3⟩ := hv
      obtain ⟨f9, hq9, hl9, hz9⟩ := hX.2.2.2.2.2.2.1 (8 + i0) (xs_8 hi0)
      refine xk_iV (rest := []) (c_Q_add l g B o lim (xm_pop τ (xs_ix ((xs_cn σ i0).2.1))) (8 + i0) (xs_8 hi0) b9 ((xs_q τ (xs_ix ((xs_cn σ i0).2.1))).headD xs_z0)) gd_X_Q_add hd_Q_add hC hW hX hS (xb_recv hK (ci := xi_Q) rfl hq9.1) hz_3 (by omega) (by omega) (by omega) (by omega) hl.1 rfl (Nat.le_of_ble_eq_true rfl) d_X_handOverKept_35 (fun H locs hX hS hF => ?_)
      have hz_3 := hz_3.F hX.2.2.2.2.2.2.2.1 hF
      refine lv_iinc (v := nI (i + 1)) (lv' := [(4, .int (nI (i + 1))), (3, .int (nI (xs_q σ (xs_ix ((xs_cn σ i0).2.1))).length)), (2, .ref (o + xs_qo (xs_ix ((xs_cn σ i0).2.1)))), (0, .ref o), (1, .ref (o + 36 + 3 * i0))]) hx hb d_X_handOverKept_38 hl (k := 0) rfl (nI_1 _) (by decide) rfl (fun ls hl => ?_)
      refine lv_goto (tgt := 21) hx hb d_X_handOverKept_41 (by decide) ?_
      exact ih (i + 1) (xm_add (xm_pop τ (xs_ix ((xs_cn σ i0).2.1))) (8 + i0) ((xs_q τ (xs_ix ((xs_cn σ i0).2.1))).headD xs_z0)) _ _ _ _ ls (by omega) hX hS  (by omega) (by omega) (lv_sub hl [0, 1, 2, 3, 4] rfl) (by rw [← hres]; simp only [xm_hk, if_true, if_false, reduceIte, Bool.false_eq_true, Bool.true_eq_false, and_true, true_and, and_false, false_and, or_true, true_or, or_false, false_or, not_true_eq_false, not_false_eq_true] <;> rfl) (by have := xs_ixl hvac; rw [xm_q_add_ne (by omega), xm_q_pop, List.length_tail, hln]; rfl)
  exact loop ((xs_q σ (xs_ix (xs_cn σ i0).2.1)).length) 0 σ _ _ _ _ ls (by omega) hX hS  (by omega) (by omega) (lv_sub hl [0, 1, 2, 3, 4] rfl) rfl rfl
set_option maxHeartbeats 4000000 in
set_option maxRecDepth 100000 in
theorem c_X_changeOwnMarks (l : Launch) (g : xw_G) (B : Nat → Prop) (o lim : Nat) (σ : xs_S) (i : Nat) (hi : i < 8) (y : Int32) (j : Nat) (hvy : vp_in y 8) (hj : xs_ix y = j) (x : Int32) : xc_V l y_X_changeOwnMarks (Cond.code y_X_changeOwnMarks b_X_changeOwnMarks 3 none) g B o lim σ (xm_com σ i j x) [.ref (o + 3 + 4 * i), .int y, .int x] (fun _ => True) 1 22 0 0 := by
  refine xh_V (own := R_X) (by decide) rfl (Nat.le_of_ble_eq_true rfl) ?_
  intro p e R s m below meth c ls hRf hRl hRc hRs hC hW hE hl
  obtain ⟨hx, hb, hml, hr, hown, hts, hlk⟩ := id hC
  have hX := hW.1
  have hK := hW.2.1
  have hS : va_S (xw_A o s.heap.size) s.heap s.heap [] := va_S.rf
  have hl : lv_has ls 3 [(0, .ref (o + 3 + 4 * i)), (1, .int y), (2, .int x)] := hl
  refine lv_iload_n hx hb d_X_changeOwnMarks_0 rfl (lv_at hl 2 rfl) ?_
  by_cases c_1 : x = 4
  · refine lv_tableIn (tgt := 32) (off := 31) hx hb d_X_changeOwnMarks_1 (by rw [c_1]; decide) (by rw [c_1]; decide) (by rw [c_1]; rfl) (by decide) ?_
    refine lv_aload_n hx hb d_X_changeOwnMarks_32 rfl (lv_at hl 0 rfl) ?_
    refine lv_iload_n hx hb d_X_changeOwnMarks_33 rfl (lv_at hl 1 rfl) ?_
    refine lv_iconst (v := 1) hx hb d_X_changeOwnMarks_34 (by decide) ?_
    refine xk_iQ (rest := []) (c_A_hasAny l g B o lim σ i hi y j hvy hj 1) gd_X_A_hasAny hd_A_hasAny hC hW hX hS (xb_recv hK (ci := xi_A) rfl (hX.2.2.2.1 i hi)) trivial (by omega) (by omega) (by omega) (by omega) hl.1 rfl (Nat.le_of_ble_eq_true rfl) d_X_changeOwnMarks_35 (fun v8 H locs hv hX hS hF => ?_)
    obtain rfl := hv
    refine lv_if_ne (tgt := 85) hx hb d_X_changeOwnMarks_38 (by decide) (fun c_2 => ?_) (fun c_2 => ?_)
    · have c_2 := xs_b1 c_2
      exact xr_V (τ := xm_com σ i j x) hC hW hX hS (by omega) (by omega) (by simp only [xm_com, c_1, c_2, if_true, if_false, reduceIte, Bool.false_eq_true, Bool.true_eq_false, and_true, true_and, and_false, false_and, or_true, true_or, or_false, false_or, not_true_eq_false, not_false_eq_true] <;> rfl) d_X_changeOwnMarks_85
    · have c_2 := xs_b0 c_2
      refine lv_aload_n hx hb d_X_changeOwnMarks_41 rfl (lv_at hl 0 rfl) ?_
      refine lv_iload_n hx hb d_X_changeOwnMarks_42 rfl (lv_at hl 1 rfl) ?_
      refine lv_iconst (v := 4) hx hb d_X_changeOwnMarks_43 (by decide) ?_
      refine xk_iV (rest := []) (c_A_addMark l g B o lim σ i hi y j hvy hj 4) gd_X_A_addMark hd_A_addMark hC hW hX hS (xb_recv hK (ci := xi_A) rfl (hX.2.2.2.1 i hi)) trivial (by omega) (by omega) (by omega) (by omega) hl.1 rfl (Nat.le_of_ble_eq_true rfl) d_X_changeOwnMarks_44 (fun H locs hX hS hF => ?_)
      refine lv_goto (tgt := 85) hx hb d_X_changeOwnMarks_47 (by decide) ?_
      exact xr_V (τ := xm_com σ i j x) hC hW hX hS (by omega) (by omega) (by simp only [xm_com, c_1, c_2, if_true, if_false, reduceIte, Bool.false_eq_true, Bool.true_eq_false, and_true, true_and, and_false, false_and, or_true, true_or, or_false, false_or, not_true_eq_false, not_false_eq_true] <;> rfl) d_X_changeOwnMarks_85
  by_cases c_3 : x = 5
  · refine lv_tableIn (tgt := 50) (off := 49) hx hb d_X_changeOwnMarks_1 (by rw [c_3]; decide) (by rw [c_3]; decide) (by rw [c_3]; rfl) (by decide) ?_
    refine lv_aload_n hx hb d_X_changeOwnMarks_50 rfl (lv_at hl 0 rfl) ?_
    refine lv_iload_n hx hb d_X_changeOwnMarks_51 rfl (lv_at hl 1 rfl) ?_
    refine lv_iconst (v := 2) hx hb d_X_changeOwnMarks_52 (by decide) ?_
    refine xk_iV (rest := []) (c_A_addMark l g B o lim σ i hi y j hvy hj 2) gd_X_A_addMark hd_A_addMark hC hW hX hS (xb_recv hK (ci := xi_A) rfl (hX.2.2.2.1 i hi)) trivial (by omega) (by omega) (by omega) (by omega) hl.1 rfl (Nat.le_of_ble_eq_true rfl) d_X_changeOwnMarks_53 (fun H locs hX hS hF => ?_)
    refine lv_aload_n hx hb d_X_changeOwnMarks_56 rfl (lv_at hl 0 rfl) ?_
    refine lv_iload_n hx hb d_X_changeOwnMarks_57 rfl (lv_at hl 1 rfl) ?_
    refine lv_bipush (v := 8) hx hb d_X_changeOwnMarks_58 (by decide) ?_
    refine xk_iV (rest := []) (c_A_dropMarks l g B o lim (xm_mark σ i j 2) i hi y j hvy hj 8) gd_X_A_dropMarks hd_A_dropMarks hC hW hX hS (xb_recv hK (ci := xi_A) rfl (hX.2.2.2.1 i hi)) trivial (by omega) (by omega) (by omega) (by omega) hl.1 rfl (Nat.le_of_ble_eq_true rfl) d_X_changeOwnMarks_60 (fun H locs hX hS hF => ?_)
    refine lv_goto (tgt := 85) hx hb d_X_changeOwnMarks_63 (by decide) ?_
    exact xr_V (τ := xm_com σ i j x) hC hW hX hS (by omega) (by omega) (by simp only [xm_com, c_1, c_3, if_true, if_false, reduceIte, Bool.false_eq_true, Bool.true_eq_false, and_true, true_and, and_false, false_and, or_true, true_or, or_false, false_or, not_true_eq_false, not_false_eq_true] <;> rfl) d_X_changeOwnMarks_85
  by_cases c_4 : x = 6
  · refine lv_tableIn (tgt := 66) (off := 65) hx hb d_X_changeOwnMarks_1 (by rw [c_4]; decide) (by rw [c_4]; decide) (by rw [c_4]; rfl) (by decide) ?_
    refine lv_aload_n hx hb d_X_changeOwnMarks_66 rfl (lv_at hl 0 rfl) ?_
    refine lv_iload_n hx hb d_X_changeOwnMarks_67 rfl (lv_at hl 1 rfl) ?_
    refine lv_iconst (v := 5) hx hb d_X_changeOwnMarks_68 (by decide) ?_
    refine xk_iV (rest := []) (c_A_dropMarks l g B o lim σ i hi y j hvy hj 5) gd_X_A_dropMarks hd_A_dropMarks hC hW hX hS (xb_recv hK (ci := xi_A) rfl (hX.2.2.2.1 i hi)) trivial (by omega) (by omega) (by omega) (by omega) hl.1 rfl (Nat.le_of_ble_eq_true rfl) d_X_changeOwnMarks_69 (fun H locs hX hS hF => ?_)
    refine lv_goto (tgt := 85) hx hb d_X_changeOwnMarks_72 (by decide) ?_
    exact xr_V (τ := xm_com σ i j x) hC hW hX hS (by omega) (by omega) (by simp only [xm_com, c_1, c_3, c_4, if_true, if_false, reduceIte, Bool.false_eq_true, Bool.true_eq_false, and_true, true_and, and_false, false_and, or_true, true_or, or_false, false_or, not_true_eq_false, not_false_eq_true] <;> rfl) d_X_changeOwnMarks_85
  by_cases c_5 : x = 7
  · refine lv_tableIn (tgt := 75) (off := 74) hx hb d_X_changeOwnMarks_1 (by rw [c_5]; decide) (by rw [c_5]; decide) (by rw [c_5]; rfl) (by decide) ?_
    refine lv_aload_n hx hb d_X_changeOwnMarks_75 rfl (lv_at hl 0 rfl) ?_
    refine lv_iload_n hx hb d_X_changeOwnMarks_76 rfl (lv_at hl 1 rfl) ?_
    refine lv_bipush (v := 10) hx hb d_X_changeOwnMarks_77 (by decide) ?_
    refine xk_iV (rest := []) (c_A_dropMarks l g B o lim σ i hi y j hvy hj 10) gd_X_A_dropMarks hd_A_dropMarks hC hW hX hS (xb_recv hK (ci := xi_A) rfl (hX.2.2.2.1 i hi)) trivial (by omega) (by omega) (by omega) (by omega) hl.1 rfl (Nat.le_of_ble_eq_true rfl) d_X_changeOwnMarks_79 (fun H locs hX hS hF => ?_)
    refine lv_goto (tgt := 85) hx hb d_X_changeOwnMarks_82 (by decide) ?_
    exact xr_V (τ := xm_com σ i j x) hC hW hX hS (by omega) (by omega) (by simp only [xm_com, c_1, c_3, c_4, c_5, if_true, if_false, reduceIte, Bool.false_eq_true, Bool.true_eq_false, and_true, true_and, and_false, false_and, or_true, true_or, or_false, false_or, not_true_eq_false, not_false_eq_true] <;> rfl) d_X_changeOwnMarks_85
  refine lv_tableOut (tgt := 85) hx hb d_X_changeOwnMarks_1 (by have q0 := lv_neT c_1 (a := 4) rfl; have q1 := lv_neT c_3 (a := 5) rfl; have q2 := lv_neT c_4 (a := 6) rfl; have q3 := lv_neT c_5 (a := 7) rfl; omega) (by decide) ?_
  exact xr_V (τ := xm_com σ i j x) hC hW hX hS (by omega) (by omega) (by simp only [xm_com, c_1, c_3, c_4, c_5, if_true, if_false, reduceIte, Bool.false_eq_true, Bool.true_eq_false, and_true, true_and, and_false, false_and, or_true, true_or, or_false, false_or, not_true_eq_false, not_false_eq_true] <;> rfl) d_X_changeOwnMarks_85
set_option maxHeartbeats 4000000 in
set_option maxRecDepth 100000 in
theorem c_X_shut (l : Launch) (g : xw_G) (B : Nat → Prop) (o lim : Nat) (σ : xs_S) (i : Nat) (hi : i < 6) (hvac : (xs_cn σ i).2.2.2.2.2 = true → vp_in (xs_cn σ i).2.1 8) : xc_V l y_X_shut (Cond.code y_X_shut b_X_shut 2 none) g B o lim σ (xm_shut σ i) [.ref o, .ref (o + 36 + 3 * i)] (fun _ => True) 7 157 16 96 := by
  refine xh_V (own := R_X) (by decide) rfl (Nat.le_of_ble_eq_true rfl) ?_
  intro p e R s m below meth c ls hRf hRl hRc hRs hC hW hE hl
  obtain ⟨hx, hb, hml, hr, hown, hts, hlk⟩ := id hC
  have hX := hW.1
  have hK := hW.2.1
  have hS : va_S (xw_A o s.heap.size) s.heap s.heap [] := va_S.rf
  have hl : lv_has ls 2 [(0, .ref o), (1, .ref (o + 36 + 3 * i))] := hl
  refine lv_aload_n hx hb d_X_shut_0 rfl (lv_at hl 1 rfl) ?_
  refine gf_X_C_available hx hb hts hown hK (hX.2.2.2.2.2.1 i hi) rfl d_X_shut_1 ?_
  refine lv_if_eq (tgt := 18) hx hb d_X_shut_4 (by decide) (fun c_1 => ?_) (fun c_1 => ?_)
  · have c_1 := xs_b0 c_1
    refine lv_aload_n hx hb d_X_shut_18 rfl (lv_at hl 1 rfl) ?_
    refine lv_iconst (v := 0) hx hb d_X_shut_19 (by decide) ?_
    refine pf_X_C_stage hx hb hts hown hK hX hS hi d_X_shut_20 (fun H locs hX hS hF => ?_)
    refine lv_aload_n hx hb d_X_shut_23 rfl (lv_at hl 1 rfl) ?_
    refine lv_iconst (v := (-1)) hx hb d_X_shut_24 (by decide) ?_
    refine pf_X_C_account hx hb hts hown hK hX hS hi d_X_shut_25 (fun H locs hX hS hF => ?_)
    refine lv_aload_n hx hb d_X_shut_28 rfl (lv_at hl 1 rfl) ?_
    refine lv_iconst (v := (-1)) hx hb d_X_shut_29 (by decide) ?_
    refine pf_X_C_resource hx hb hts hown hK hX hS hi d_X_shut_30 (fun H locs hX hS hF => ?_)
    exact xr_V (τ := xm_shut σ i) hC hW hX hS (by omega) (by omega) (by simp only [xm_shut, xm_quiet, xm_sav_ac, c_1, if_true, if_false, reduceIte, Bool.false_eq_true, Bool.true_eq_false, and_true, true_and, and_false, false_and, or_true, true_or, or_false, false_or, not_true_eq_false, not_false_eq_true] <;> rfl) d_X_shut_33
  · have c_1 := xs_b1 c_1
    refine lv_aload_n hx hb d_X_shut_7 rfl (lv_at hl 1 rfl) ?_
    refine lv_iconst (v := 0) hx hb d_X_shut_8 (by decide) ?_
    refine pf_X_C_available (b := false) hx hb hts hown hK hX hS hi d_X_shut_9 (fun H locs hX hS hF => ?_)
    refine lv_aload_n hx hb d_X_shut_12 rfl (lv_at hl 0 rfl) ?_
    refine lv_aload_n hx hb d_X_shut_13 rfl (lv_at hl 1 rfl) ?_
    refine lv_iconst (v := 3) hx hb d_X_shut_14 (by decide) ?_
    obtain ⟨v9, hXo, hXl⟩ := hX.1
    refine xk_iV (rest := []) (c_X_sendToWatchers l g B o lim (xm_sav σ i false) i hi 3 (by rw [xm_sav_ac]; exact hvac c_1)) gd_X_X_sendToWatchers hd_X_sendToWatchers hC hW hX hS (xb_recv hK (ci := xi_X) rfl hXo) trivial (by omega) (by omega) (by omega) (by omega) hl.1 rfl (Nat.le_of_ble_eq_true rfl) d_X_shut_15 (fun H locs hX hS hF => ?_)
    refine lv_aload_n hx hb d_X_shut_18 rfl (lv_at hl 1 rfl) ?_
    refine lv_iconst (v := 0) hx hb d_X_shut_19 (by decide) ?_
    refine pf_X_C_stage hx hb hts hown hK hX hS hi d_X_shut_20 (fun H locs hX hS hF => ?_)
    refine lv_aload_n hx hb d_X_shut_23 rfl (lv_at hl 1 rfl) ?_
    refine lv_iconst (v := (-1)) hx hb d_X_shut_24 (by decide) ?_
    refine pf_X_C_account hx hb hts hown hK hX hS hi d_X_shut_25 (fun H locs hX hS hF => ?_)
    refine lv_aload_n hx hb d_X_shut_28 rfl (lv_at hl 1 rfl) ?_
    refine lv_iconst (v := (-1)) hx hb d_X_shut_29 (by decide) ?_
    refine pf_X_C_resource hx hb hts hown hK hX hS hi d_X_shut_30 (fun H locs hX hS hF => ?_)
    exact xr_V (τ := xm_shut σ i) hC hW hX hS (by omega) (by omega) (by simp only [xm_shut, xm_quiet, xm_sav_ac, c_1, if_true, if_false, reduceIte, Bool.false_eq_true, Bool.true_eq_false, and_true, true_and, and_false, false_and, or_true, true_or, or_false, false_or, not_true_eq_false, not_false_eq_true] <;> rfl) d_X_shut_33
set_option maxHeartbeats 4000000 in
set_option maxRecDepth 100000 in
theorem c_X_keptForAll (l : Launch) (g : xw_G) (B : Nat → Prop) (o lim : Nat) (σ : xs_S) : xc_Q l y_X_keptForAll (Cond.code y_X_keptForAll b_X_keptForAll 6 (some .int)) g B o lim σ σ [.ref o] (fun _ => True) (fun v _ => v = .int (xm_kall 8 0 σ 0)) 0 0 0 0 := by
  refine xh_Q (own := R_X) (by decide) rfl (Nat.le_of_ble_eq_true rfl) ?_
  intro p e R s m below meth c ls hRf hRl hRc hRs hC hW hE hl
  obtain ⟨hx, hb, hml, hr, hown, hts, hlk⟩ := id hC
  have hX := hW.1
  have hK := hW.2.1
  have hS : va_S (xw_A o s.heap.size) s.heap s.heap [] := va_S.rf
  have hl : lv_has ls 6 [(0, .ref o)] := hl
  refine lv_iconst (v := 0) hx hb d_X_keptForAll_0 (by decide) ?_
  refine lv_istore_n (lv' := [(1, .int 0), (0, .ref o)]) hx hb d_X_keptForAll_1 rfl hl (by decide) rfl (fun ls hl => ?_)
  refine lv_aload_n hx hb d_X_keptForAll_2 rfl (lv_at hl 1 rfl) ?_
  obtain ⟨v9, hXo, hXl⟩ := hX.1
  refine gf_X_X_accounts hx hb hts hown hK hXo rfl d_X_keptForAll_3 ?_
  refine lv_astore_n (lv' := [(2, .ref (o + 2)), (1, .int 0), (0, .ref o)]) hx hb d_X_keptForAll_6 rfl hl (by decide) rfl (fun ls hl => ?_)
  refine lv_aload_n hx hb d_X_keptForAll_7 rfl (lv_at hl 0 rfl) ?_
  refine xb_alen hx hb hK 0 rfl hX.2.1 d_X_keptForAll_8 ?_
  refine lv_istore_n (lv' := [(3, .int (nI 8)), (2, .ref (o + 2)), (1, .int 0), (0, .ref o)]) hx hb d_X_keptForAll_9 rfl hl (by decide) rfl (fun ls hl => ?_)
  refine lv_iconst (v := 0) hx hb d_X_keptForAll_10 (by decide) ?_
  refine lv_istore (lv' := [(4, .int 0), (3, .int (nI 8)), (2, .ref (o + 2)), (1, .int 0), (0, .ref o)]) hx hb d_X_keptForAll_11 hl (by decide) rfl (fun ls hl => ?_)
  have loop : ∀ (n i : Nat) (g0 : Int32) (H : Heap) (locs : List Loc) (cells slots : Nat) (ls : Array Slot), i + n = 8 → xw_R g B o σ H → va_S (xw_A o s.heap.size) s.heap H locs → cells + n * 0 ≤ 0 → slots + n * 0 ≤ 0 → lv_has ls 6 [(4, .int (nI i)), (3, .int (nI 8)), (2, .ref (o + 2)), (1, .int g0), (0, .ref o)] → xm_kall n i σ g0 = xm_kall 8 0 σ 0 → W p l e R s m ([.ref o] : List Value).toArray below meth c H locs cells slots (MQ below (xb_Q (fun v t => (fun v _ => v = .int (xm_kall 8 0 σ 0)) v t.heap ∧ xw_W g B o lim σ t) (xw_A o s.heap.size)) ([.ref o] : List Value).toArray s 0 0 (xw_A o s.heap.size)) (F0 m 13 ls []) := by
    intro n
    induction n with
    | zero =>
      intro i g0 H locs cells slots ls hi hX hS  hc hs hl hres 
      obtain rfl : i = 8 := by omega
      refine lv_iload hx hb d_X_keptForAll_13 (lv_at hl 0 rfl) ?_
      refine lv_iload_n hx hb d_X_keptForAll_15 rfl (lv_at hl 1 rfl) ?_
      refine lv_icmp_ge (tgt := 42) hx hb d_X_keptForAll_16 (by decide) (fun c_1 => ?_) (fun c_1 => absurd (nI_le (Nat.le_refl 8) (by decide)) c_1)
      refine lv_iload_n hx hb d_X_keptForAll_42 rfl (lv_at hl 3 rfl) ?_
      exact xr_I (τ := σ) (val := (fun v _ => v = .int (xm_kall 8 0 σ 0))) hC hW hX hS (by omega) (by omega) rfl (by rw [← hres]; rfl) d_X_keptForAll_43
    | succ n ih =>
      intro i g0 H locs cells slots ls hi hX hS  hc hs hl hres 
      refine lv_iload hx hb d_X_keptForAll_13 (lv_at hl 0 rfl) ?_
      refine lv_iload_n hx hb d_X_keptForAll_15 rfl (lv_at hl 1 rfl) ?_
      refine lv_icmp_ge (tgt := 42) hx hb d_X_keptForAll_16 (by decide) (fun c_2 => absurd c_2 (nI_ge (show i < 8 by omega) (by decide))) (fun c_2 => ?_)
      refine lv_aload_n hx hb d_X_keptForAll_19 rfl (lv_at hl 2 rfl) ?_
      refine lv_iload hx hb d_X_keptForAll_20 (lv_at hl 0 rfl) ?_
      refine xb_aald (v := o + 3 + 4 * i) hx hb hK 0 rfl hX.2.1 (vp_in_nI (show i < 8 by omega) (by decide)) (by rw [nI_clamp (by omega)]) d_X_keptForAll_22 ?_
      refine lv_astore (lv' := [(5, .ref (o + 3 + 4 * i)), (4, .int (nI i)), (3, .int (nI 8)), (2, .ref (o + 2)), (1, .int g0), (0, .ref o)]) hx hb d_X_keptForAll_23 hl (by decide) rfl (fun ls hl => ?_)
      refine lv_iload_n hx hb d_X_keptForAll_25 rfl (lv_at hl 4 rfl) ?_
      refine lv_aload hx hb d_X_keptForAll_26 (lv_at hl 0 rfl) ?_
      refine gf_X_A_kept hx hb hts hown hK (hX.2.2.2.1 i (show i < 8 by omega)) rfl d_X_keptForAll_28 ?_
      obtain ⟨f9, hq9, hl9, hz9⟩ := hX.2.2.2.2.2.2.1 i (Nat.lt_of_lt_of_le (show i < 8 by omega) (by decide))
      refine gf_X_Q_size hx hb hts hown hK hq9.1 rfl d_X_keptForAll_31 ?_
      refine lv_iadd hx hb d_X_keptForAll_34 ?_
      refine lv_istore_n (lv' := [(1, .int (g0 + (nI (xs_q σ i).length))), (5, .ref (o + 3 + 4 * i)), (4, .int (nI i)), (3, .int (nI 8)), (2, .ref (o + 2)), (0, .ref o)]) hx hb d_X_keptForAll_35 rfl hl (by decide) rfl (fun ls hl => ?_)
      refine lv_iinc (v := nI (i + 1)) (lv' := [(4, .int (nI (i + 1))), (1, .int (g0 + (nI (xs_q σ i).length))), (5, .ref (o + 3 + 4 * i)), (3, .int (nI 8)), (2, .ref (o + 2)), (0, .ref o)]) hx hb d_X_keptForAll_36 hl (k := 2) rfl (nI_1 _) (by decide) rfl (fun ls hl => ?_)
      refine lv_goto (tgt := 13) hx hb d_X_keptForAll_39 (by decide) ?_
      exact ih (i + 1) (g0 + (nI (xs_q σ i).length)) _ _ _ _ ls (by omega) hX hS  (by omega) (by omega) (lv_sub hl [0, 3, 4, 1, 5] rfl) (by rw [← hres]; simp only [xm_kall, if_true, if_false, reduceIte, Bool.false_eq_true, Bool.true_eq_false, and_true, true_and, and_false, false_and, or_true, true_or, or_false, false_or, not_true_eq_false, not_false_eq_true] <;> rfl) 
  exact loop 8 0 0 _ _ _ _ ls (by omega) hX hS  (by omega) (by omega) (lv_sub hl [0, 1, 2, 3, 4] rfl) rfl 
set_option maxHeartbeats 4000000 in
set_option maxRecDepth 100000 in
theorem c_X_lostByAll (l : Launch) (g : xw_G) (B : Nat → Prop) (o lim : Nat) (σ : xs_S) : xc_Q l y_X_lostByAll (Cond.code y_X_lostByAll b_X_lostByAll 6 (some .int)) g B o lim σ σ [.ref o] (fun _ => True) (fun v _ => v = .int (xm_lall 6 0 σ 0)) 0 0 0 0 := by
  refine xh_Q (own := R_X) (by decide) rfl (Nat.le_of_ble_eq_true rfl) ?_
  intro p e R s m below meth c ls hRf hRl hRc hRs hC hW hE hl
  obtain ⟨hx, hb, hml, hr, hown, hts, hlk⟩ := id hC
  have hX := hW.1
  have hK := hW.2.1
  have hS : va_S (xw_A o s.heap.size) s.heap s.heap [] := va_S.rf
  have hl : lv_has ls 6 [(0, .ref o)] := hl
  refine lv_iconst (v := 0) hx hb d_X_lostByAll_0 (by decide) ?_
  refine lv_istore_n (lv' := [(1, .int 0), (0, .ref o)]) hx hb d_X_lostByAll_1 rfl hl (by decide) rfl (fun ls hl => ?_)
  refine lv_aload_n hx hb d_X_lostByAll_2 rfl (lv_at hl 1 rfl) ?_
  obtain ⟨v9, hXo, hXl⟩ := hX.1
  refine gf_X_X_connections hx hb hts hown hK hXo rfl d_X_lostByAll_3 ?_
  refine lv_astore_n (lv' := [(2, .ref (o + 35)), (1, .int 0), (0, .ref o)]) hx hb d_X_lostByAll_6 rfl hl (by decide) rfl (fun ls hl => ?_)
  refine lv_aload_n hx hb d_X_lostByAll_7 rfl (lv_at hl 0 rfl) ?_
  refine xb_alen hx hb hK 1 rfl hX.2.2.1 d_X_lostByAll_8 ?_
  refine lv_istore_n (lv' := [(3, .int (nI 6)), (2, .ref (o + 35)), (1, .int 0), (0, .ref o)]) hx hb d_X_lostByAll_9 rfl hl (by decide) rfl (fun ls hl => ?_)
  refine lv_iconst (v := 0) hx hb d_X_lostByAll_10 (by decide) ?_
  refine lv_istore (lv' := [(4, .int 0), (3, .int (nI 6)), (2, .ref (o + 35)), (1, .int 0), (0, .ref o)]) hx hb d_X_lostByAll_11 hl (by decide) rfl (fun ls hl => ?_)
  have loop : ∀ (n i : Nat) (g0 : Int32) (H : Heap) (locs : List Loc) (cells slots : Nat) (ls : Array Slot), i + n = 6 → xw_R g B o σ H → va_S (xw_A o s.heap.size) s.heap H locs → cells + n * 0 ≤ 0 → slots + n * 0 ≤ 0 → lv_has ls 6 [(4, .int (nI i)), (3, .int (nI 6)), (2, .ref (o + 35)), (1, .int g0), (0, .ref o)] → xm_lall n i σ g0 = xm_lall 6 0 σ 0 → W p l e R s m ([.ref o] : List Value).toArray below meth c H locs cells slots (MQ below (xb_Q (fun v t => (fun v _ => v = .int (xm_lall 6 0 σ 0)) v t.heap ∧ xw_W g B o lim σ t) (xw_A o s.heap.size)) ([.ref o] : List Value).toArray s 0 0 (xw_A o s.heap.size)) (F0 m 13 ls []) := by
    intro n
    induction n with
    | zero =>
      intro i g0 H locs cells slots ls hi hX hS  hc hs hl hres 
      obtain rfl : i = 6 := by omega
      refine lv_iload hx hb d_X_lostByAll_13 (lv_at hl 0 rfl) ?_
      refine lv_iload_n hx hb d_X_lostByAll_15 rfl (lv_at hl 1 rfl) ?_
      refine lv_icmp_ge (tgt := 42) hx hb d_X_lostByAll_16 (by decide) (fun c_1 => ?_) (fun c_1 => absurd (nI_le (Nat.le_refl 6) (by decide)) c_1)
      refine lv_iload_n hx hb d_X_lostByAll_42 rfl (lv_at hl 3 rfl) ?_
      exact xr_I (τ := σ) (val := (fun v _ => v = .int (xm_lall 6 0 σ 0))) hC hW hX hS (by omega) (by omega) rfl (by rw [← hres]; rfl) d_X_lostByAll_43
    | succ n ih =>
      intro i g0 H locs cells slots ls hi hX hS  hc hs hl hres 
      refine lv_iload hx hb d_X_lostByAll_13 (lv_at hl 0 rfl) ?_
      refine lv_iload_n hx hb d_X_lostByAll_15 rfl (lv_at hl 1 rfl) ?_
      refine lv_icmp_ge (tgt := 42) hx hb d_X_lostByAll_16 (by decide) (fun c_2 => absurd c_2 (nI_ge (show i < 6 by omega) (by decide))) (fun c_2 => ?_)
      refine lv_aload_n hx hb d_X_lostByAll_19 rfl (lv_at hl 2 rfl) ?_
      refine lv_iload hx hb d_X_lostByAll_20 (lv_at hl 0 rfl) ?_
      refine xb_aald (v := o + 36 + 3 * i) hx hb hK 1 rfl hX.2.2.1 (vp_in_nI (show i < 6 by omega) (by decide)) (by rw [nI_clamp (by omega)]) d_X_lostByAll_22 ?_
      refine lv_astore (lv' := [(5, .ref (o + 36 + 3 * i)), (4, .int (nI i)), (3, .int (nI 6)), (2, .ref (o + 35)), (1, .int g0), (0, .ref o)]) hx hb d_X_lostByAll_23 hl (by decide) rfl (fun ls hl => ?_)
      refine lv_iload_n hx hb d_X_lostByAll_25 rfl (lv_at hl 4 rfl) ?_
      refine lv_aload hx hb d_X_lostByAll_26 (lv_at hl 0 rfl) ?_
      refine gf_X_C_inbox hx hb hts hown hK (hX.2.2.2.2.2.1 i (show i < 6 by omega)) rfl d_X_lostByAll_28 ?_
      obtain ⟨f9, hq9, hl9, hz9⟩ := hX.2.2.2.2.2.2.1 (8 + i) (xs_8 (show i < 6 by omega))
      refine gf_X_Q_lost hx hb hts hown hK hq9.1 rfl d_X_lostByAll_31 ?_
      refine lv_iadd hx hb d_X_lostByAll_34 ?_
      refine lv_istore_n (lv' := [(1, .int (g0 + (xs_lo σ (8 + i)))), (5, .ref (o + 36 + 3 * i)), (4, .int (nI i)), (3, .int (nI 6)), (2, .ref (o + 35)), (0, .ref o)]) hx hb d_X_lostByAll_35 rfl hl (by decide) rfl (fun ls hl => ?_)
      refine lv_iinc (v := nI (i + 1)) (lv' := [(4, .int (nI (i + 1))), (1, .int (g0 + (xs_lo σ (8 + i)))), (5, .ref (o + 36 + 3 * i)), (3, .int (nI 6)), (2, .ref (o + 35)), (0, .ref o)]) hx hb d_X_lostByAll_36 hl (k := 2) rfl (nI_1 _) (by decide) rfl (fun ls hl => ?_)
      refine lv_goto (tgt := 13) hx hb d_X_lostByAll_39 (by decide) ?_
      exact ih (i + 1) (g0 + (xs_lo σ (8 + i))) _ _ _ _ ls (by omega) hX hS  (by omega) (by omega) (lv_sub hl [0, 3, 4, 1, 5] rfl) (by rw [← hres]; simp only [xm_lall, if_true, if_false, reduceIte, Bool.false_eq_true, Bool.true_eq_false, and_true, true_and, and_false, false_and, or_true, true_or, or_false, false_or, not_true_eq_false, not_false_eq_true] <;> rfl) 
  exact loop 6 0 0 _ _ _ _ ls (by omega) hX hS  (by omega) (by omega) (lv_sub hl [0, 1, 2, 3, 4] rfl) rfl 
end
section
/-! Methods that throw: a contract for the throw alone, its call, its catching, 'throw new E()' (launches without stack traces). -/
/-- it threw a fresh object of E; B of the state behind it; nothing old changed but in A -/
def xe_Q (E : String) (B : State → Prop) (A : Nat → Prop) (mc ms : Nat) (free : Addr → Prop) : Array Value → State → Outcome → State → Prop := fun _ st o t =>
  ∃ (q : Addr) (ce : Cell) (L : List Loc), o = .threw q ∧ B t ∧ va_F A st t ∧ t.heap[q]? = some ce ∧ ce.vm = .none ∧ st.vm.findClass E = some ce.cls ∧ st.WarmedH t.vm ∧ st.sameButNew ({ t with vm := st.vm } : State) L mc ms ∧ ∀ z ∈ L, free z.base
def xe_Met (l : Launch) (y : MethodName) (ws : List Cond) (rm : Room) (Pc : Array Value → State → Prop) (E : String) (B : State → Prop) (A : Nat → Prop) (mc ms : Nat) (free : Addr → Prop) : Prop :=
  MetFree l y (headSpec ws rm) Pc (fun _ _ _ _ _ => True) (xe_Q E B A mc ms free)
/-- a body's end, either way -/
def xe_MQ (below : List Frame) (Qc X : Array Value → State → Outcome → State → Prop) (a : Array Value) (s : State) (mc ms : Nat) (free : Addr → Prop) : State → Prop := fun t =>
  ∃ o, t.status = .running ∧ Ended t below o ∧ ((Qc a s o t ∧ ∃ L, FrameEnd s o t L mc ms ∧ ∀ q ∈ L, free q.base) ∨ X a s o t)
def xe_W (p : Program) (l : Launch) (e : Env) (R : Room) (s : State) (m : MethodId) (args : Array Value) (below : List Frame) (meth : Method) (c : Code) (H : Heap) (locs : List Loc) (cells slots : Nat) (Q : State → Prop) (g : JFrame) (q : Addr) : Prop :=
  ∀ T : State, T.heap = H → Stand p l e R s m args below meth c T locs cells slots → ∃ t, Steps p.tables e below ((T.setTop g).pushFrame (.throwing q)) t ∧ Q t
section XEA
variable {l : Launch} {y : MethodName} {ws ws' : List Cond} {rm : Room} {Pc : Array Value → State → Prop} {Qc X : Array Value → State → Outcome → State → Prop} {mc ms : Nat} {free : Addr → Prop} {cc : ByteArray} {maxL : Nat} {ret : Option FieldType}
theorem xe_ofW (hy : plainName y.cls = true) (hw : ws = Cond.code y cc maxL ret :: ws')
    (body : ∀ p e s m args below meth c s₁, BodyLoose p l y (headSpec ws rm) cc maxL ret e s m args below meth c s₁ → c.maxLocals = maxL → (∀ x ∈ c.exceptionTable.toList, False) → Pc args s →
      W p l e (headSpec ws rm).room s m args below meth c s.heap [] 0 0 (xe_MQ below Qc X args s mc ms free) (entryFrame m args maxL)) :
    MetFree l y (headSpec ws rm) Pc (fun _ _ _ _ _ => True) (fun a s o t => (Qc a s o t ∧ ∃ L, FrameEnd s o t L mc ms ∧ ∀ q ∈ L, free q.base) ∨ X a s o t) := by
  refine MetFree.of_bodyS (code := cc) (maxLocals := maxL) (ret := ret) hy ?_ ?_
  · intro args s m h hn
    obtain ⟨meth, c, h1, h2, h3, h4, h5, h6, -, -⟩ := Cond.code_spec hn (atoms_spec (ws := ws) h _ (by rw [hw]; exact List.mem_cons_self))
    exact ⟨meth, c, h1, h2, h3, h4, h5, h6⟩
  · intro p e s m args below meth c s₁ B0 hml hP _
    have hh0 : s₁.heap = s.heap := by rw [B0.state]; rfl
    have hno : c.exceptionTable.isEmpty = true := BodyLoose.noHandlers B0 (atoms_spec (ws := ws) B0.pre _ (by rw [hw]; exact List.mem_cons_self))
    have ht : ∀ x ∈ c.exceptionTable.toList, False := by
      intro x hx
      rw [Array.isEmpty_iff.mp hno] at hx
      cases hx
    obtain ⟨t, a1, o, b1, b2, b3⟩ := body p e s m args below meth c s₁ B0 hml ht hP s₁ hh0 (Stand.of_body B0)
    exact ⟨t, o, a1, b1, b2, b3⟩
/-- where it can't throw -/
theorem xe_returns {Pd : Array Value → State → Prop} (h : MetFree l y (headSpec ws rm) Pc (fun _ _ _ _ _ => True) (fun a s o t => (Qc a s o t ∧ ∃ L, FrameEnd s o t L mc ms ∧ ∀ q ∈ L, free q.base) ∨ X a s o t)) (hp : ∀ a s, Pd a s → Pc a s) (hx : ∀ a s o t, Pd a s → X a s o t → False) : Met l y ws rm Pd Qc mc ms free := by
  intro p e h1 h2 h3 s m args below hf happ hP hk
  obtain ⟨n, o, a1, a2, a3, a4⟩ := h p e h1 h2 h3 s m args below hf happ (hp _ _ hP) hk
  exact ⟨n, o, a1, a2, a3, a4.elim (fun z => z) (fun z => (hx _ _ _ _ hP z).elim)⟩
/-- where it can't return -/
theorem xe_throws {Pd : Array Value → State → Prop} {E : String} {B : State → Prop} {A : Nat → Prop} (h : MetFree l y (headSpec ws rm) Pc (fun _ _ _ _ _ => True) (fun a s o t => (Qc a s o t ∧ ∃ L, FrameEnd s o t L mc ms ∧ ∀ q ∈ L, free q.base) ∨ X a s o t)) (hp : ∀ a s, Pd a s → Pc a s) (hq : ∀ a s o t, Pd a s → Qc a s o t → False) (hx : ∀ a s o t, Pd a s → X a s o t → xe_Q E B A mc ms free a s o t) : xe_Met l y ws rm Pd E B A mc ms free := by
  intro p e h1 h2 h3 s m args below hf happ hP hk
  obtain ⟨n, o, a1, a2, a3, a4⟩ := h p e h1 h2 h3 s m args below hf happ (hp _ _ hP) hk
  exact ⟨n, o, a1, a2, a3, a4.elim (fun z => (hq _ _ _ _ hP z.1).elim) (fun z => hx _ _ _ _ hP z)⟩
end XEA
section XEB
variable {l : Launch} {R : Room} {p : Program} {e : Env} {below : List Frame} {s : State} {sargs : Array Value} {y : MethodName} {W9 : Nat}
/-- the callee throws: the caller's frame stands again, with the note of the throw over it -/
theorem xe_back {ws : List Cond} {rm : Room} {Pc : Array Value → State → Prop} {E : String} {B : State → Prop} {A : Nat → Prop} {mc ms : Nat} {free : Addr → Prop} {bytes : ByteArray} {maxL : Nat} {ret : Option FieldType}
    (hM : xe_Met l y ws rm Pc E B A mc ms free) (hblind : FrameBlind Pc) (hrc : rm.cells = mc) (hrs : rm.slots = ms) (hframes : rm.frames + 1 ≤ R.frames) (hlocals : W9 + (maxL + 11) + rm.locals ≤ R.locals)
    (hws : ∀ w ∈ ws, ∀ a' U, s.WarmedH U.vm → w.before a' U = true) (hcode : Cond.code y bytes maxL ret ∈ ws) (hinit : ∀ a' U, s.WarmedH U.vm → (Cond.initialized y.cls).before a' U = true)
    {m : MethodId} {meth : Method} {c : Code} {U : State} {Ls : List Loc} {c0 s0 len : Nat} {g : JFrame} {ig : Instr} {mk : MethodId} {a : Array Value}
    (X : Stand p l e R s m sargs below meth c U Ls c0 s0) (hg : g.method = m) (hsize : g.locals.size = c.maxLocals) (hdg : decode c.code g.pc = .ok (ig, len)) (hW : 2 * g.monitorRoom + (g.stack.map fun v => v.category).sum ≤ W9) (hn : U.methodNamed? y = some mk)
    (hc : c0 + mc ≤ R.cells) (hs : s0 + ms ≤ R.slots) (hP : Pc a U) :
    ∃ (q : Addr) (ce : Cell) (t V : State) (L : List Loc), Stand p l e R s m sargs below meth c V (Ls ++ L) (c0 + mc) (s0 + ms) ∧ V.heap = t.heap ∧ V.vm = t.vm ∧ B t ∧ va_F A U t ∧ t.heap[q]? = some ce ∧ ce.vm = .none ∧ U.vm.findClass E = some ce.cls ∧ (∀ z ∈ L, free z.base) ∧
      Steps p.tables e below (doInvoke e (U.setTop g) [] mk a).1 ((V.setTop g).pushFrame (.throwing q)) := by
  have h1 : (headSpec ws rm).pre.before a U = true := atoms_intro fun w hw => hws w hw _ _ X.warmed
  have h2 : (Cond.code y bytes maxL ret).before a U = true := hws _ hcode _ _ X.warmed
  obtain ⟨methY, cY, hmY, hcY, -, hlY, -, -, -, -⟩ := Cond.code_spec hn h2
  obtain ⟨kY, hkY, -⟩ := className_of_methodNamed hn
  have hinitY : kY.init = .initialized := Cond.initialized_spec (findClass_of_methodNamed hn) hkY (hinit a U X.warmed)
  have h : At U g.method c below := by rw [hg]; exact X.here
  have happ : (headSpec ws rm).appliesLoose y e.platform (U.calling g mk a) = true :=
    Spec.appliesLoose_calling (g := g) h hdg hn hkY hinitY
      (X.room_calling (g := g) (R' := (headSpec ws rm).room) hsize hmY hcY hframes (by rw [hlY]; exact Nat.le_trans (by show _ ≤ W9 + (maxL + 11) + rm.locals; show _ + rm.locals ≤ _; omega) hlocals) (by rw [show (headSpec ws rm).room.cells = mc from hrc]; exact hc) (by rw [show (headSpec ws rm).room.slots = ms from hrs]; exact hs)) h1
  obtain ⟨mid, hmid⟩ := h.above
  have hfr : (U.setTop g).frames = (.java g :: mid) ++ below := by rw [State.frames_setTop' g h.top, hmid]; rfl
  obtain ⟨o, s₂, hsteps, -, hend, hq⟩ := Steps.callFree hM p X.admits X.cas X.clock (acts := []) hfr happ (hblind _ _ _ _ hP) trivial
  obtain ⟨q, ce, L, rfl, hB, hF, hce, hcv, hcl, hW₂, hsm, hL⟩ : xe_Q E B A mc ms free a (U.calling g mk a) o s₂ := hq
  rw [State.frames_setTop' g h.top] at hend
  obtain ⟨e2, q2, q3, q4, q5, q6⟩ := id hsm
  have e3 : s₂ = ({ (U.calling g mk a).setFrames s₂.frames with heap := s₂.heap, slotsUsed := s₂.slotsUsed } : State).setVm s₂.vm := by
    have : s₂ = ({ s₂ with vm := (U.calling g mk a).vm } : State).setVm s₂.vm := rfl
    rw [e2] at this
    exact this
  have hf₂ : s₂.frames = .throwing q :: .java g :: U.frames.tail := hend
  have hW' : U.WarmedH s₂.vm := hW₂
  obtain ⟨g₀, hg0⟩ := Option.isSome_iff_exists.mp h.top
  obtain ⟨r, hr⟩ := State.topJava?_eq_some.mp hg0
  have hr' : (({ U with heap := s₂.heap, slotsUsed := s₂.slotsUsed } : State).setVm s₂.vm).frames = .java g₀ :: r := hr
  have hs₂ : s₂ = ((({ U with heap := s₂.heap, slotsUsed := s₂.slotsUsed } : State).setVm s₂.vm).setTop g).pushFrame (.throwing q) := by
    refine e3.trans ?_
    rw [hf₂, State.calling_eq h.top, State.setFrames_setFrames, State.pushFrame, State.frames_setTop _ hr', State.setTop_of_frames _ hr', State.setFrames_setFrames, hr]
    rfl
  have hsame : U.sameButNew ({ U with heap := s₂.heap, slotsUsed := s₂.slotsUsed } : State) L mc ms := by
    refine ⟨?_, q2, q3, q4, q5, q6⟩
    obtain ⟨t, ht, -⟩ := State.frames_cons hr
    show ({ U with heap := s₂.heap, slotsUsed := s₂.slotsUsed } : State) = { U.setFrames U.frames with heap := s₂.heap, slotsUsed := s₂.slotsUsed }
    rw [State.setFrames_self ht]
  subst hg
  refine ⟨q, ce, s₂, (({ U with heap := s₂.heap, slotsUsed := s₂.slotsUsed } : State).setVm s₂.vm), L,
    ⟨X.admits, X.cas, X.clock, X.frames, X.room, X.hears, X.method, X.code, (X.here.setHeapUsed s₂.heap s₂.slotsUsed).setVm hW'.alike, X.tail, State.WarmedH.trans X.warmed hW', X.limits, X.bytes, X.same.trans (hsame.setVm s.vm)⟩,
    rfl, rfl, hB, hF, hce, hcv, hcl, hL, ?_⟩
  rw [← hs₂]
  exact hsteps
end XEB
section XEC
variable {p : Program} {l : Launch} {e : Env} {R : Room} {s : State} {m : MethodId} {args : Array Value} {below : List Frame} {meth : Method} {c : Code} {H : Heap} {locs : List Loc} {cells slots : Nat} {Q : State → Prop}
variable {cc bytes : ByteArray} {pc nL maxL index mc ms n : Nat} {ls : Array Slot} {rest st0 As : List Value} {own C : String} {y : MethodName} {ret : Option FieldType} {ws Ts : List Cond} {rm : Room} {Pc : Array Value → State → Prop} {E : String} {B : State → Prop} {A0 A1 : Nat → Prop} {H0 : Heap} {free : Addr → Prop} {b : Addr}
theorem xe_callS (S : CallFix p m c cc nL s args Ts own) (hM : xe_Met l y ws rm Pc E B A1 mc ms free) (cw : CallB R s args own index y bytes maxL ret ws rm mc ms n ∧ (Cond.static y).before args s = true) (hp : PreS s H Pc As)
    (hn : As.length = n) (hls : ls.size = nL) (hst : st0 = As.reverse ++ rest) (hrm : (rest.map fun v => v.category).sum ≤ 8) (hdg : decode cc pc = .ok (.invokestatic index, 3)) (hRc : cells + mc ≤ R.cells) (hRs : slots + ms ≤ R.slots)
    (hS : va_S A0 H0 H locs) (hA : ∀ q, A1 q → A0 q) (hf : ∀ q, free q → A0 q)
    (kx : ∀ (ce : Cell) (q9 : Addr) (t : State) (locs1 : List Loc), s.vm.Alike t.vm → B t → H.size ≤ t.heap.size → (∀ q : Nat, q < H.size → ¬ A1 q → t.heap[q]? = H[q]?) → va_S A0 H0 t.heap locs1 → t.heap[q9]? = some ce → ce.vm = .none → s.vm.findClass E = some ce.cls → xe_W p l e R s m args below meth c t.heap locs1 (cells + mc) (slots + ms) Q (F0 m pc ls rest) q9) : W p l e R s m args below meth c H locs cells slots Q (F0 m pc ls st0) := by
  obtain ⟨⟨hrc, hrs, hfr, hlo, hws, hcw, hcode, hini, hy, hlen, hl⟩, hstt⟩ := cw
  obtain ⟨hx, hb, hml, ho, -⟩ := S
  intro T hT X
  obtain ⟨mk, hnamed⟩ := Cond.code_named hcode
  obtain ⟨methM, cM, hmethM, -, -, -, -, -, -, hsigM⟩ := Cond.code_spec hnamed hcode
  have hstatic : methM.isStatic = true := Cond.static_spec hnamed hmethM hstt
  obtain ⟨kP, hkP, -⟩ := className_of_methodNamed hnamed
  have hinitP : kP.init = .initialized := Cond.initialized_spec (findClass_of_methodNamed hnamed) hkP hini
  have hdg' : decode c.code pc = .ok (.invokestatic index, 3) := by rw [hb]; exact hdg
  obtain ⟨vm₁, X₁, hstep₁⟩ := X.invokestatic hx ho hl hnamed hmethM hstatic hkP hinitP hy (g := F0 m pc ls st0) rfl (argsL := As) (rest := rest) ((hn.trans (hlen _ hsigM))) hst hdg'
  obtain ⟨q, ce, t, V, L, XV, e1, e2, hB, hF, hce, hcv, hcl, hL, st⟩ := xe_back (W9 := 8) (bytes := bytes) (maxL := maxL) (ret := ret) hM hp.1 hrc hrs hfr hlo hws hcw (fun a' U hW => word_at hW (Or.inl (by first | rfl | simp [Cond.onTables, Cond.keeps, Cond.steady])) hini) X₁ (g := F0 m pc ls rest) (ig := .invokestatic index) (mk := mk) (a := As.toArray) rfl (hls.trans hml.symm) hdg' (lv_room hrm) (X₁.named hnamed) hRc hRs (hp.2 (T.setVm vm₁) hT X₁.warmed)
  obtain ⟨k1, k2, k3⟩ := xb_keep (A0 := A0) (A1 := A1) (H := H) (st₀ := T.setVm vm₁) hT e1 hS hA hf hL hF
  rw [e1] at k1 k2 k3
  have hcl9 : s.vm.findClass E = some ce.cls := by
    have h1 := hcl
    rw [X₁.warmed.alike.findClass] at h1
    exact h1
  obtain ⟨t2, a1, b1⟩ := kx ce q t (locs ++ L) (by rw [← e2]; exact XV.warmed.alike) hB k1 k2 k3 hce hcv hcl9 V e1 XV
  exact ⟨t2, hstep₁ _ fun acts => by rw [doInvoke_state]; exact st.trans a1, b1⟩
theorem xe_callV (S : CallFix p m c cc nL s args Ts own) (hM : xe_Met l y ws rm Pc E B A1 mc ms free) (cw : CallW R s args own C index y bytes maxL ret ws rm mc ms n) (hp : PreV s H C b Pc As)
    (hn : As.length = n) (hls : ls.size = nL) (hst : st0 = As.reverse ++ .ref b :: rest) (hrm : (rest.map fun v => v.category).sum ≤ 8) (hdg : decode cc pc = .ok (.invokevirtual index, 3)) (hRc : cells + mc ≤ R.cells) (hRs : slots + ms ≤ R.slots)
    (hS : va_S A0 H0 H locs) (hA : ∀ q, A1 q → A0 q) (hf : ∀ q, free q → A0 q)
    (kx : ∀ (ce : Cell) (q9 : Addr) (t : State) (locs1 : List Loc), s.vm.Alike t.vm → B t → H.size ≤ t.heap.size → (∀ q : Nat, q < H.size → ¬ A1 q → t.heap[q]? = H[q]?) → va_S A0 H0 t.heap locs1 → t.heap[q9]? = some ce → ce.vm = .none → s.vm.findClass E = some ce.cls → xe_W p l e R s m args below meth c t.heap locs1 (cells + mc) (slots + ms) Q (F0 m pc ls rest) q9) : W p l e R s m args below meth c H locs cells slots Q (F0 m pc ls st0) := by
  obtain ⟨⟨hrc, hrs, hfr, hlo, hws, hcw, hcode, hini, hy, hlen, hl⟩, hinst, hsel⟩ := cw
  obtain ⟨hx, hb, hml, ho, -⟩ := S
  obtain ⟨hbl, ⟨cellB, hcB, hoB, hclB⟩, hPc⟩ := hp
  intro T hT X
  obtain ⟨mk, methM, hnamed, hmethM, hstM, habM⟩ := Cond.instanceMethod_spec hinst
  obtain ⟨methM', cM, hmethM', -, -, -, -, -, -, hsigM⟩ := Cond.code_spec hnamed hcode
  cases hmethM.symm.trans hmethM'
  obtain ⟨c2, r2, m2, q1, q2, q3, q4, kP, hkP, hkPi⟩ := Cond.selects_spec hsel
  cases hclB.symm.trans q1
  cases (State.methodFound?_of_named hnamed hy).symm.trans q2
  cases hnamed.symm.trans q3
  have hselP : selectMethod e.platform s.vm cellB.cls mk = .method mk := by rw [Launch.admits_selectMethod X.admits]; exact q4
  have hdg' : decode c.code pc = .ok (.invokevirtual index, 3) := by rw [hb]; exact hdg
  obtain ⟨vm₁, X₁, hstep₁⟩ := X.invokevirtual hx ho hl hnamed hmethM hstM hkP hkPi hy (a := b) (cell := cellB) (by rw [hT]; exact hcB)
    (fun z h => by rw [h] at hoB; cases hoB) hselP hmethM habM hkP hkPi (g := F0 m pc ls st0) rfl (argsL := As) (rest := rest) (hn.trans (hlen _ hsigM)) hst hdg'
  obtain ⟨q, ce, t, V, L, XV, e1, e2, hB, hF, hce, hcv, hcl, hL, st⟩ := xe_back (W9 := 8) (bytes := bytes) (maxL := maxL) (ret := ret) hM hbl hrc hrs hfr hlo hws hcw (fun a' U hW => word_at hW (Or.inl (by first | rfl | simp [Cond.onTables, Cond.keeps, Cond.steady])) hini) X₁ (g := F0 m pc ls rest) (ig := .invokevirtual index) (mk := mk) (a := (Value.ref b :: As).toArray) rfl (hls.trans hml.symm) hdg' (lv_room hrm) (X₁.named hnamed) hRc hRs (hPc (T.setVm vm₁) hT X₁.warmed)
  obtain ⟨k1, k2, k3⟩ := xb_keep (A0 := A0) (A1 := A1) (H := H) (st₀ := T.setVm vm₁) hT e1 hS hA hf hL hF
  rw [e1] at k1 k2 k3
  have hcl9 : s.vm.findClass E = some ce.cls := by
    have h1 := hcl
    rw [X₁.warmed.alike.findClass] at h1
    exact h1
  obtain ⟨t2, a1, b1⟩ := kx ce q t (locs ++ L) (by rw [← e2]; exact XV.warmed.alike) hB k1 k2 k3 hce hcv hcl9 V e1 XV
  exact ⟨t2, hstep₁ _ fun acts => by rw [doInvoke_state]; exact st.trans a1, b1⟩
/-- it goes on to the caller -/
theorem xe_out {Qc : Array Value → State → Outcome → State → Prop} {A : Nat → Prop} {ce : Cell} {q : Addr} (hout : ∀ x ∈ c.exceptionTable.toList, False) (hlk : meth.locks = false) (hcell : H[q]? = some ce) (hv : ce.vm = .none) (hcl : s.vm.findClass E = some ce.cls)
    (hB : ∀ t : State, t.heap = H → s.vm.Alike t.vm → B t) (hS : va_S A s.heap H locs) (hf : ∀ z ∈ locs, free z.base) (hc : cells ≤ mc) (hs : slots ≤ ms) :
    xe_W p l e R s m args below meth c H locs cells slots (xe_MQ below Qc (xe_Q E B A mc ms free) args s mc ms free) (F0 m pc ls rest) q := by
  intro T hT X
  obtain ⟨st1, hrun, hend, hW, hsm⟩ := X.leaveThrown q (g := F0 m pc ls rest) rfl rfl rfl (fun x hx => (hout x hx).elim) hlk
  exact ⟨_, st1, .threw q, hrun, hend, Or.inr ⟨q, ce, locs, rfl, hB _ hT hW.alike, hS.F hT, by show T.heap[q]? = some ce; rw [hT]; exact hcell, hv, hcl, hW, hsm.mono hc hs, hf⟩⟩
theorem xe_ret {Qc X : Array Value → State → Outcome → State → Prop} {g : JFrame} (k : W p l e R s m args below meth c H locs cells slots (MQ below Qc args s mc ms free) g) : W p l e R s m args below meth c H locs cells slots (xe_MQ below Qc X args s mc ms free) g := by
  intro T hT X9
  obtain ⟨t, a1, o, b1, b2, b3, b4⟩ := k T hT X9
  exact ⟨t, a1, o, b1, b2, Or.inl ⟨b3, b4⟩⟩
end XEC
end
section
/-! 'throw new E()', and the catching of what a callee threw. -/
section XEF
variable {p : Program} {l : Launch} {e : Env} {R : Room} {s : State} {m : MethodId} {args : Array Value} {below : List Frame} {meth : Method} {c : Code} {T : State} {H : Heap} {locs : List Loc} {cells slots : Nat} {Q : State → Prop}
/-- the invocation, seen as if it began here -/
theorem xe_rebase (X : Stand p l e R s m args below meth c T locs cells slots) {Rn : Room} (hf : Rn.frames ≤ R.frames) (hl : Rn.locals ≤ R.locals) (hc : cells + Rn.cells ≤ R.cells) (hs : slots + Rn.slots ≤ R.slots) :
    Stand p l e Rn ((T.setVm s.vm).setFrames (.invoking m args :: below)) m args below meth c T [] 0 0 := by
  obtain ⟨g₀, hg0⟩ := Option.isSome_iff_exists.mp X.here.top
  obtain ⟨r, hr⟩ := State.topJava?_eq_some.mp hg0
  have hr' : (T.setVm s.vm).frames = .java g₀ :: r := hr
  have hcur : (T.setVm s.vm).cur < (T.setVm s.vm).threads.size := State.cur_lt_of_frames hr'
  have hF : ((T.setVm s.vm).setFrames (.invoking m args :: below)).frames = .invoking m args :: below := State.frames_setFrames _ hcur
  have hlim : e.platform.stackLimits (T.setVm s.vm).me = e.platform.stackLimits s.me := X.limits
  have hby : (T.setVm s.vm).me.stackBytes = s.me.stackBytes := X.bytes
  have hU : ((T.setVm s.vm).setFrames (.invoking m args :: below)).localsInUse = s.localsInUse := by
    rw [State.localsInUse_invoking hF (meth := meth) (c := c) X.method X.code, State.localsInUse_invoking X.frames X.method X.code]
  refine ⟨X.admits, X.cas, X.clock, hF, ?_, X.hears, X.method, X.code, X.here, X.tail, X.warmed, ?_, ?_, ?_⟩
  · have h := X.room
    have q1 := X.heapSize
    have q2 := X.used
    simp only [State.hasRoom, Bool.and_eq_true, decide_eq_true_eq] at h ⊢
    obtain ⟨⟨⟨⟨h1, h2, h3, h4, h5, h6⟩, h7⟩, h8⟩, h9⟩ := h
    rw [X.frames, List.length_cons] at h2 h3
    simp only [hF, hU, List.length_cons, State.stackLimits_setFrames, State.stackBytes_setFrames, hlim, hby]
    refine ⟨⟨⟨⟨by omega, by omega, by omega, by omega, by omega, h6⟩, ?_⟩, ?_⟩, X.book⟩
    · show T.heap.size + Rn.cells ≤ e.platform.maxCells
      omega
    · show T.slotsUsed + Rn.slots ≤ e.platform.maxSlots
      omega
  · rw [State.stackLimits_setFrames]; rfl
  · rw [State.stackBytes_setFrames]; rfl
  · obtain ⟨t, ht, -⟩ := State.frames_cons hF
    have h := (State.sameButNew.refl ((T.setVm s.vm).setFrames (.invoking m args :: below)) ht).setFrames (T.setVm s.vm).frames (State.cur_lt_of_frames hF)
    rw [State.setFrames_setFrames] at h
    obtain ⟨t2, ht2, -⟩ := State.frames_cons hr'
    rw [State.setFrames_self ht2] at h
    exact h
variable {cc : ByteArray} {pc mc ms : Nat} {ls : Array Slot} {rest : List Value} {own cls : String} {names : List String} {ik ic lim : Nat} {A : Nat → Prop} {B : State → Prop} {free : Addr → Prop} {Qc : Array Value → State → Outcome → State → Prop}
/-- the words of a throw that no method is handed -/
def xt_no : List Cond := .isRef (.static Bundle.tN "UNASSIGNED_STACK" Bundle.steD) :: .isRef (.static Bundle.tN "SUPPRESSED_SENTINEL" Bundle.listD) :: .laysStatic Bundle.tN "UNASSIGNED_STACK" Bundle.steD :: .laysStatic Bundle.tN "SUPPRESSED_SENTINEL" Bundle.listD :: xt_fw
theorem xe_words {U : State} (h : ∀ w ∈ xw_ws, w.before args U = true) (hT : xw_T lim U) : ∀ w, w ∈ xw_ws ∨ w ∈ xt_no → w.before args U = true := by
  intro w hw
  rcases hw with hw | hw
  · exact h w hw
  · rcases List.mem_cons.mp hw with rfl | hw
    · exact hT.1.ref
    · rcases List.mem_cons.mp hw with rfl | hw
      · exact hT.2.1.ref
      · rcases List.mem_cons.mp hw with rfl | hw
        · exact hT.1.lays
        · rcases List.mem_cons.mp hw with rfl | hw
          · exact hT.2.1.lays
          · exact xt_fw_to (xt_fw_face w hw) (Vm.Alike.refl U.vm) (hT.2.2 w hw)
/-- 'throw new E()': new; dup; the constructor; athrow -/
theorem xe_throw0 (hexec : p.tables.exec = Jvm.exec) (hb : c.code = cc) (hsl : l.stackTraces = false) (hown : s.vm.findClass own = some m.cls) (hcls : Bundle.fit cls = true) (hnames : ∀ n ∈ names, Bundle.fit n = true)
    (hk : Cond.classLink own ik cls ∈ xw_ws) (hini : Cond.initialized cls ∈ xw_ws) (hins : Cond.instantiable cls 6 ∈ xw_ws) (hat : ∀ w ∈ Bundle.ownAtoms0 own ic cls names, w ∈ xw_ws ∨ w ∈ xt_no) (hts : ∀ w ∈ xw_ws, w.before args s = true)
    (hT0 : xw_T lim s) (hlim : ∀ q, A q → lim ≤ q) (hS : va_S A s.heap H locs) (hsize : ls.size = c.maxLocals)
    (d0 : decode cc pc = .ok (.new ik, 3)) (d3 : decode cc (pc + 3) = .ok (.dup, 1)) (d4 : decode cc (pc + 4) = .ok (.invokespecial ic, 3)) (d7 : decode cc (pc + 7) = .ok (.athrow, 1)) (hout : ∀ x ∈ c.exceptionTable.toList, False)
    (hRf : names.length + 3 < R.frames) (hRl : (rest.map fun v => v.category).sum + (13 * (names.length + 1) + 42) ≤ R.locals) (hRc : cells + 1 ≤ R.cells) (hRs : slots + 6 ≤ R.slots) (hlk : meth.locks = false)
    (hB : ∀ t : State, s.vm.Alike t.vm → H.size ≤ t.heap.size → (∀ q : Nat, q < H.size → t.heap[q]? = H[q]?) → B t) (hf : ∀ z ∈ locs, free z.base) (hc : cells + 1 ≤ mc) (hs : slots + 6 ≤ ms) :
    W p l e R s m args below meth c H locs cells slots (xe_MQ below Qc (xe_Q cls B A mc ms free) args s mc ms free) (F0 m pc ls rest) := by
  intro T hT X
  have htr : e.platform.stackTraces = false := (show e.platform.stackTraces = l.stackTraces by rw [X.admits.platform]).trans hsl
  have Y := xe_rebase X (Rn := { frames := R.frames, locals := R.locals, cells := 1, slots := 6 }) (Nat.le_refl _) (Nat.le_refl _) hRc hRs
  obtain ⟨s', hA⟩ : ∃ z, z = (T.setVm s.vm).setFrames (.invoking m args :: below) := ⟨_, rfl⟩
  rw [← hA] at Y
  have hvm : s'.vm = s.vm := by rw [hA]; rfl
  have hhp : s'.heap = H := by rw [hA]; exact hT
  have hW0 : s.WarmedH s'.vm := by rw [hvm]; exact State.WarmedH.refl s
  have hw : ∀ w ∈ xw_ws, w.before args s' = true := fun w h => word_at hW0 (good_of_word (List.mem_filter.mp h).2) (hts w h)
  have hT1 : xw_T lim s' := hT0.to hW0.alike (fun q h1 h2 => by rw [hhp]; exact hS.2.1 q h1 (fun z => Nat.not_lt.mpr (hlim q z) h2))
  have h : ∀ w ∈ Bundle.ownAtoms0 own ic cls names, w.before args s' = true := fun w hw9 => xe_words hw hT1 w (hat w hw9)
  have hown' : s'.vm.findClass own = some m.cls := by rw [hvm]; exact hown
  obtain ⟨vm₁, cX, kX, hfX, hkX, -, -, X₁, st1⟩ := Y.newCold hexec (own := own) (C := cls) (index := ik) (n := 6) hown' (hw _ hk) (hw _ hins) (hw _ hini)
    (g := F0 m pc ls rest) rfl (by rw [hb]; exact d0) (Nat.le_refl _) (Nat.le_refl _)
  generalize hT9 : (T.setVm vm₁).pushCell { cls := cX, slots := kX.instanceTypes.map defaultValue, vm := .none } = T1 at X₁ st1
  have hcellA : T1.heap[T.heap.size]? = some (freshCell cX kX) := by rw [← hT9]; exact State.heap_pushCell_size _ _
  have d3' : decode c.code (pc + 3) = .ok (.dup, 1) := by rw [hb]; exact d3
  have hcat : (Value.ref T.heap.size).category = 1 := rfl
  obtain ⟨U, hsteps, hrun, hend, hW, hsame, ce, hce, hO⟩ := X₁.ctorThrow0 hexec htr (own := own) (cls := cls) (names := names) (ic := ic) hown' hcls hnames h (fun x hx => nomatch hx) hfX hkX hcellA (by rw [hhp, hT]; exact Nat.le_refl _)
    (g := { method := m, pc := pc + 4, locals := ls, stack := .ref T.heap.size :: .ref T.heap.size :: rest, locked := none }) rfl hsize rfl rfl (rest := rest) rfl
    (by rw [hb]; exact d4) (by rw [hb]; exact d7) (fun x hx => (hout x hx).elim) hRf (by simp only [List.map_cons, List.sum_cons, hcat]; omega) hlk
  have hWs : s.WarmedH U.vm := State.WarmedH.trans hW0 hW
  obtain ⟨-, z2, -, -, -, z6⟩ := id hsame
  have f1 : H.size ≤ U.heap.size := by rw [← hhp]; exact z2
  have f2 : ∀ q : Nat, q < H.size → U.heap[q]? = H[q]? := fun q hq => by
    rw [← hhp] at hq ⊢
    obtain ⟨c9, e1, e2, e3, e4⟩ := z6 q _ (Array.getElem?_eq_getElem hq)
    have hs9 : c9.slots = (s'.heap[q]).slots := Array.ext_getElem? fun i => e4 i (fun z => nomatch z)
    have e5 : U.heap[q]? = some c9 := e1
    rw [hs9] at e2
    rw [e5, Array.getElem?_eq_getElem hq, e2]
  have hall : s.sameButNew ({ U with vm := s.vm } : State) locs mc ms := by
    subst hA
    obtain ⟨e1, e2⟩ := hsame
    rw [State.setFrames_setFrames] at e1
    have h2 : (T.setVm s.vm).sameButNew ({ U with vm := s.vm } : State) [] (0 + 1) (0 + 6) := ⟨e1, e2⟩
    have h3 := X.same.trans h2
    rw [List.append_nil] at h3
    exact h3.mono hc hs
  have hSU : va_F A s U := ⟨Nat.le_trans hS.1 f1, fun q h1 h2 => (f2 q (Nat.lt_of_lt_of_le h1 hS.1)).trans (hS.2.1 q h1 h2)⟩
  have hclc : s.vm.findClass cls = some ce.cls := by
    have h9 := hO.cls
    rw [hvm] at h9
    exact h9
  refine ⟨U, ?_, .threw T.heap.size, hrun, hend, Or.inr ⟨T.heap.size, ce, locs, rfl, hB U hWs.alike f1 f2, hSU, hce, hO.vm, hclc, hWs, hall, hf⟩⟩
  refine st1 _ ?_
  show Steps p.tables e below (T1.setTop { method := m, pc := pc + 3, locals := ls, stack := .ref T.heap.size :: rest, locked := none }) _
  jvm_step X₁.here [X₁.here.top, hexec, d3', Value.category]
  exact hsteps
end XEF
set_option maxRecDepth 100000 in
theorem hat_1 : ∀ w ∈ Bundle.ownAtoms0 R_X 160 "java/lang/IllegalArgumentException" ["java/lang/RuntimeException", "java/lang/Exception"], w ∈ xw_ws ∨ w ∈ xt_no := List.forall_mem_cons.mpr ⟨Or.inl (xw_t 7 rfl rfl), List.forall_mem_cons.mpr ⟨Or.inl (xw_t 266 rfl rfl), List.forall_mem_cons.mpr ⟨Or.inl (xw_t 275 rfl rfl), List.forall_mem_cons.mpr ⟨Or.inl (xw_t 280 rfl rfl), List.forall_mem_cons.mpr ⟨Or.inl (xw_t 283 rfl rfl), List.forall_mem_cons.mpr ⟨Or.inl (xw_t 285 rfl rfl), List.forall_mem_cons.mpr ⟨Or.inl (xw_t 267 rfl rfl), List.forall_mem_cons.mpr ⟨Or.inl (xw_t 268 rfl rfl), List.forall_mem_cons.mpr ⟨Or.inl (xw_t 20 rfl rfl), List.forall_mem_cons.mpr ⟨Or.inl (xw_t 21 rfl rfl), List.forall_mem_cons.mpr ⟨Or.inl (xw_t 269 rfl rfl), List.forall_mem_cons.mpr ⟨Or.inl (xw_t 274 rfl rfl), List.forall_mem_cons.mpr ⟨Or.inl (xw_t 281 rfl rfl), List.forall_mem_cons.mpr ⟨Or.inl (xw_t 297 rfl rfl), List.forall_mem_cons.mpr ⟨Or.inl (xw_t 256 rfl rfl), List.forall_mem_cons.mpr ⟨Or.inl (xw_t 298 rfl rfl), List.forall_mem_cons.mpr ⟨Or.inl (xw_t 258 rfl rfl), List.forall_mem_cons.mpr ⟨Or.inl (xw_t 299 rfl rfl), List.forall_mem_cons.mpr ⟨Or.inl (xw_t 260 rfl rfl), List.forall_mem_cons.mpr ⟨Or.inl (xw_t 270 rfl rfl), List.forall_mem_cons.mpr ⟨Or.inr (List.mem_of_getElem? (i := 2) rfl), List.forall_mem_cons.mpr ⟨Or.inl (xw_t 272 rfl rfl), List.forall_mem_cons.mpr ⟨Or.inr (List.mem_of_getElem? (i := 3) rfl), List.forall_mem_cons.mpr ⟨Or.inl (xw_t 262 rfl rfl), List.forall_mem_cons.mpr ⟨Or.inl (xw_t 287 rfl rfl), List.forall_mem_cons.mpr ⟨Or.inl (xw_t 288 rfl rfl), List.forall_mem_cons.mpr ⟨Or.inl (xw_t 289 rfl rfl), List.forall_mem_cons.mpr ⟨Or.inl (xw_t 290 rfl rfl), List.forall_mem_cons.mpr ⟨Or.inr (List.mem_of_getElem? (i := 8) rfl), List.forall_mem_cons.mpr ⟨Or.inl (xw_t 290 rfl rfl), List.forall_mem_cons.mpr ⟨Or.inl (xw_t 291 rfl rfl), List.forall_mem_cons.mpr ⟨Or.inl (xw_t 292 rfl rfl), List.forall_mem_cons.mpr ⟨Or.inl (xw_t 293 rfl rfl), List.forall_mem_cons.mpr ⟨Or.inr (List.mem_of_getElem? (i := 9) rfl), List.forall_mem_cons.mpr ⟨Or.inl (xw_t 293 rfl rfl), List.forall_mem_cons.mpr ⟨Or.inl (xw_t 294 rfl rfl), List.forall_mem_cons.mpr ⟨Or.inl (xw_t 295 rfl rfl), List.forall_mem_cons.mpr ⟨Or.inl (xw_t 267 rfl rfl), List.forall_mem_cons.mpr ⟨Or.inr (List.mem_of_getElem? (i := 10) rfl), List.forall_mem_cons.mpr ⟨Or.inl (xw_t 286 rfl rfl), List.forall_mem_cons.mpr ⟨Or.inl (xw_t 245 rfl rfl), List.forall_mem_cons.mpr ⟨Or.inr (List.mem_of_getElem? (i := 4) rfl), List.forall_mem_cons.mpr ⟨Or.inl (xw_t 253 rfl rfl), List.forall_mem_cons.mpr ⟨Or.inl (xw_t 254 rfl rfl), List.forall_mem_cons.mpr ⟨Or.inl (xw_t 255 rfl rfl), List.forall_mem_cons.mpr ⟨Or.inl (xw_t 257 rfl rfl), List.forall_mem_cons.mpr ⟨Or.inl (xw_t 259 rfl rfl), List.forall_mem_cons.mpr ⟨Or.inl (xw_t 261 rfl rfl), List.forall_mem_cons.mpr ⟨Or.inr (List.mem_of_getElem? (i := 0) rfl), List.forall_mem_cons.mpr ⟨Or.inr (List.mem_of_getElem? (i := 1) rfl), List.forall_mem_cons.mpr ⟨Or.inl (xw_t 265 rfl rfl), List.forall_mem_cons.mpr ⟨Or.inl (xw_t 264 rfl rfl), List.forall_mem_cons.mpr ⟨Or.inl (xw_t 263 rfl rfl), fun _ h => absurd h List.not_mem_nil⟩⟩⟩⟩⟩⟩⟩⟩⟩⟩⟩⟩⟩⟩⟩⟩⟩⟩⟩⟩⟩⟩⟩⟩⟩⟩⟩⟩⟩⟩⟩⟩⟩⟩⟩⟩⟩⟩⟩⟩⟩⟩⟩⟩⟩⟩⟩⟩⟩⟩⟩⟩⟩
theorem hkl_1 : Cond.classLink R_X 158 "java/lang/IllegalArgumentException" ∈ xw_ws := xw_t 244 rfl rfl
theorem hii_1 : Cond.initialized "java/lang/IllegalArgumentException" ∈ xw_ws := xw_t 10 rfl rfl
theorem hia_1 : Cond.instantiable "java/lang/IllegalArgumentException" 6 ∈ xw_ws := xw_t 245 rfl rfl
set_option maxRecDepth 100000 in
theorem hat_2 : ∀ w ∈ Bundle.ownAtoms0 R_X 177 "java/lang/IllegalStateException" ["java/lang/RuntimeException", "java/lang/Exception"], w ∈ xw_ws ∨ w ∈ xt_no := List.forall_mem_cons.mpr ⟨Or.inl (xw_t 7 rfl rfl), List.forall_mem_cons.mpr ⟨Or.inl (xw_t 266 rfl rfl), List.forall_mem_cons.mpr ⟨Or.inl (xw_t 275 rfl rfl), List.forall_mem_cons.mpr ⟨Or.inl (xw_t 280 rfl rfl), List.forall_mem_cons.mpr ⟨Or.inl (xw_t 283 rfl rfl), List.forall_mem_cons.mpr ⟨Or.inl (xw_t 285 rfl rfl), List.forall_mem_cons.mpr ⟨Or.inl (xw_t 267 rfl rfl), List.forall_mem_cons.mpr ⟨Or.inl (xw_t 268 rfl rfl), List.forall_mem_cons.mpr ⟨Or.inl (xw_t 20 rfl rfl), List.forall_mem_cons.mpr ⟨Or.inl (xw_t 21 rfl rfl), List.forall_mem_cons.mpr ⟨Or.inl (xw_t 269 rfl rfl), List.forall_mem_cons.mpr ⟨Or.inl (xw_t 274 rfl rfl), List.forall_mem_cons.mpr ⟨Or.inl (xw_t 281 rfl rfl), List.forall_mem_cons.mpr ⟨Or.inl (xw_t 297 rfl rfl), List.forall_mem_cons.mpr ⟨Or.inl (xw_t 256 rfl rfl), List.forall_mem_cons.mpr ⟨Or.inl (xw_t 298 rfl rfl), List.forall_mem_cons.mpr ⟨Or.inl (xw_t 258 rfl rfl), List.forall_mem_cons.mpr ⟨Or.inl (xw_t 299 rfl rfl), List.forall_mem_cons.mpr ⟨Or.inl (xw_t 260 rfl rfl), List.forall_mem_cons.mpr ⟨Or.inl (xw_t 270 rfl rfl), List.forall_mem_cons.mpr ⟨Or.inr (List.mem_of_getElem? (i := 2) rfl), List.forall_mem_cons.mpr ⟨Or.inl (xw_t 272 rfl rfl), List.forall_mem_cons.mpr ⟨Or.inr (List.mem_of_getElem? (i := 3) rfl), List.forall_mem_cons.mpr ⟨Or.inl (xw_t 262 rfl rfl), List.forall_mem_cons.mpr ⟨Or.inl (xw_t 321 rfl rfl), List.forall_mem_cons.mpr ⟨Or.inl (xw_t 322 rfl rfl), List.forall_mem_cons.mpr ⟨Or.inl (xw_t 323 rfl rfl), List.forall_mem_cons.mpr ⟨Or.inl (xw_t 290 rfl rfl), List.forall_mem_cons.mpr ⟨Or.inr (List.mem_of_getElem? (i := 8) rfl), List.forall_mem_cons.mpr ⟨Or.inl (xw_t 290 rfl rfl), List.forall_mem_cons.mpr ⟨Or.inl (xw_t 291 rfl rfl), List.forall_mem_cons.mpr ⟨Or.inl (xw_t 292 rfl rfl), List.forall_mem_cons.mpr ⟨Or.inl (xw_t 293 rfl rfl), List.forall_mem_cons.mpr ⟨Or.inr (List.mem_of_getElem? (i := 9) rfl), List.forall_mem_cons.mpr ⟨Or.inl (xw_t 293 rfl rfl), List.forall_mem_cons.mpr ⟨Or.inl (xw_t 294 rfl rfl), List.forall_mem_cons.mpr ⟨Or.inl (xw_t 295 rfl rfl), List.forall_mem_cons.mpr ⟨Or.inl (xw_t 267 rfl rfl), List.forall_mem_cons.mpr ⟨Or.inr (List.mem_of_getElem? (i := 10) rfl), List.forall_mem_cons.mpr ⟨Or.inl (xw_t 320 rfl rfl), List.forall_mem_cons.mpr ⟨Or.inl (xw_t 312 rfl rfl), List.forall_mem_cons.mpr ⟨Or.inr (List.mem_of_getElem? (i := 5) rfl), List.forall_mem_cons.mpr ⟨Or.inl (xw_t 314 rfl rfl), List.forall_mem_cons.mpr ⟨Or.inl (xw_t 277 rfl rfl), List.forall_mem_cons.mpr ⟨Or.inl (xw_t 315 rfl rfl), List.forall_mem_cons.mpr ⟨Or.inl (xw_t 316 rfl rfl), List.forall_mem_cons.mpr ⟨Or.inl (xw_t 317 rfl rfl), List.forall_mem_cons.mpr ⟨Or.inl (xw_t 318 rfl rfl), List.forall_mem_cons.mpr ⟨Or.inr (List.mem_of_getElem? (i := 0) rfl), List.forall_mem_cons.mpr ⟨Or.inr (List.mem_of_getElem? (i := 1) rfl), List.forall_mem_cons.mpr ⟨Or.inl (xw_t 265 rfl rfl), List.forall_mem_cons.mpr ⟨Or.inl (xw_t 264 rfl rfl), List.forall_mem_cons.mpr ⟨Or.inl (xw_t 319 rfl rfl), fun _ h => absurd h List.not_mem_nil⟩⟩⟩⟩⟩⟩⟩⟩⟩⟩⟩⟩⟩⟩⟩⟩⟩⟩⟩⟩⟩⟩⟩⟩⟩⟩⟩⟩⟩⟩⟩⟩⟩⟩⟩⟩⟩⟩⟩⟩⟩⟩⟩⟩⟩⟩⟩⟩⟩⟩⟩⟩⟩
theorem hkl_2 : Cond.classLink R_X 175 "java/lang/IllegalStateException" ∈ xw_ws := xw_t 311 rfl rfl
theorem hii_2 : Cond.initialized "java/lang/IllegalStateException" ∈ xw_ws := xw_t 11 rfl rfl
theorem hia_2 : Cond.instantiable "java/lang/IllegalStateException" 6 ∈ xw_ws := xw_t 312 rfl rfl
set_option maxRecDepth 100000 in
theorem hat_3 : ∀ w ∈ Bundle.ownAtoms0 R_X 92 "java/lang/UnsupportedOperationException" ["java/lang/RuntimeException", "java/lang/Exception"], w ∈ xw_ws ∨ w ∈ xt_no := List.forall_mem_cons.mpr ⟨Or.inl (xw_t 7 rfl rfl), List.forall_mem_cons.mpr ⟨Or.inl (xw_t 266 rfl rfl), List.forall_mem_cons.mpr ⟨Or.inl (xw_t 275 rfl rfl), List.forall_mem_cons.mpr ⟨Or.inl (xw_t 280 rfl rfl), List.forall_mem_cons.mpr ⟨Or.inl (xw_t 283 rfl rfl), List.forall_mem_cons.mpr ⟨Or.inl (xw_t 285 rfl rfl), List.forall_mem_cons.mpr ⟨Or.inl (xw_t 267 rfl rfl), List.forall_mem_cons.mpr ⟨Or.inl (xw_t 268 rfl rfl), List.forall_mem_cons.mpr ⟨Or.inl (xw_t 20 rfl rfl), List.forall_mem_cons.mpr ⟨Or.inl (xw_t 21 rfl rfl), List.forall_mem_cons.mpr ⟨Or.inl (xw_t 269 rfl rfl), List.forall_mem_cons.mpr ⟨Or.inl (xw_t 274 rfl rfl), List.forall_mem_cons.mpr ⟨Or.inl (xw_t 281 rfl rfl), List.forall_mem_cons.mpr ⟨Or.inl (xw_t 297 rfl rfl), List.forall_mem_cons.mpr ⟨Or.inl (xw_t 256 rfl rfl), List.forall_mem_cons.mpr ⟨Or.inl (xw_t 298 rfl rfl), List.forall_mem_cons.mpr ⟨Or.inl (xw_t 258 rfl rfl), List.forall_mem_cons.mpr ⟨Or.inl (xw_t 299 rfl rfl), List.forall_mem_cons.mpr ⟨Or.inl (xw_t 260 rfl rfl), List.forall_mem_cons.mpr ⟨Or.inl (xw_t 270 rfl rfl), List.forall_mem_cons.mpr ⟨Or.inr (List.mem_of_getElem? (i := 2) rfl), List.forall_mem_cons.mpr ⟨Or.inl (xw_t 272 rfl rfl), List.forall_mem_cons.mpr ⟨Or.inr (List.mem_of_getElem? (i := 3) rfl), List.forall_mem_cons.mpr ⟨Or.inl (xw_t 262 rfl rfl), List.forall_mem_cons.mpr ⟨Or.inl (xw_t 369 rfl rfl), List.forall_mem_cons.mpr ⟨Or.inl (xw_t 370 rfl rfl), List.forall_mem_cons.mpr ⟨Or.inl (xw_t 371 rfl rfl), List.forall_mem_cons.mpr ⟨Or.inl (xw_t 290 rfl rfl), List.forall_mem_cons.mpr ⟨Or.inr (List.mem_of_getElem? (i := 8) rfl), List.forall_mem_cons.mpr ⟨Or.inl (xw_t 290 rfl rfl), List.forall_mem_cons.mpr ⟨Or.inl (xw_t 291 rfl rfl), List.forall_mem_cons.mpr ⟨Or.inl (xw_t 292 rfl rfl), List.forall_mem_cons.mpr ⟨Or.inl (xw_t 293 rfl rfl), List.forall_mem_cons.mpr ⟨Or.inr (List.mem_of_getElem? (i := 9) rfl), List.forall_mem_cons.mpr ⟨Or.inl (xw_t 293 rfl rfl), List.forall_mem_cons.mpr ⟨Or.inl (xw_t 294 rfl rfl), List.forall_mem_cons.mpr ⟨Or.inl (xw_t 295 rfl rfl), List.forall_mem_cons.mpr ⟨Or.inl (xw_t 267 rfl rfl), List.forall_mem_cons.mpr ⟨Or.inr (List.mem_of_getElem? (i := 10) rfl), List.forall_mem_cons.mpr ⟨Or.inl (xw_t 368 rfl rfl), List.forall_mem_cons.mpr ⟨Or.inl (xw_t 360 rfl rfl), List.forall_mem_cons.mpr ⟨Or.inr (List.mem_of_getElem? (i := 6) rfl), List.forall_mem_cons.mpr ⟨Or.inl (xw_t 362 rfl rfl), List.forall_mem_cons.mpr ⟨Or.inl (xw_t 278 rfl rfl), List.forall_mem_cons.mpr ⟨Or.inl (xw_t 363 rfl rfl), List.forall_mem_cons.mpr ⟨Or.inl (xw_t 364 rfl rfl), List.forall_mem_cons.mpr ⟨Or.inl (xw_t 365 rfl rfl), List.forall_mem_cons.mpr ⟨Or.inl (xw_t 366 rfl rfl), List.forall_mem_cons.mpr ⟨Or.inr (List.mem_of_getElem? (i := 0) rfl), List.forall_mem_cons.mpr ⟨Or.inr (List.mem_of_getElem? (i := 1) rfl), List.forall_mem_cons.mpr ⟨Or.inl (xw_t 265 rfl rfl), List.forall_mem_cons.mpr ⟨Or.inl (xw_t 264 rfl rfl), List.forall_mem_cons.mpr ⟨Or.inl (xw_t 367 rfl rfl), fun _ h => absurd h List.not_mem_nil⟩⟩⟩⟩⟩⟩⟩⟩⟩⟩⟩⟩⟩⟩⟩⟩⟩⟩⟩⟩⟩⟩⟩⟩⟩⟩⟩⟩⟩⟩⟩⟩⟩⟩⟩⟩⟩⟩⟩⟩⟩⟩⟩⟩⟩⟩⟩⟩⟩⟩⟩⟩⟩
theorem hkl_3 : Cond.classLink R_X 90 "java/lang/UnsupportedOperationException" ∈ xw_ws := xw_t 359 rfl rfl
theorem hii_3 : Cond.initialized "java/lang/UnsupportedOperationException" ∈ xw_ws := xw_t 12 rfl rfl
theorem hia_3 : Cond.instantiable "java/lang/UnsupportedOperationException" 6 ∈ xw_ws := xw_t 360 rfl rfl
set_option maxRecDepth 100000 in
theorem hat_4 : ∀ w ∈ Bundle.ownAtoms0 R_X 147 "java/util/NoSuchElementException" ["java/lang/RuntimeException", "java/lang/Exception"], w ∈ xw_ws ∨ w ∈ xt_no := List.forall_mem_cons.mpr ⟨Or.inl (xw_t 7 rfl rfl), List.forall_mem_cons.mpr ⟨Or.inl (xw_t 266 rfl rfl), List.forall_mem_cons.mpr ⟨Or.inl (xw_t 275 rfl rfl), List.forall_mem_cons.mpr ⟨Or.inl (xw_t 280 rfl rfl), List.forall_mem_cons.mpr ⟨Or.inl (xw_t 283 rfl rfl), List.forall_mem_cons.mpr ⟨Or.inl (xw_t 285 rfl rfl), List.forall_mem_cons.mpr ⟨Or.inl (xw_t 267 rfl rfl), List.forall_mem_cons.mpr ⟨Or.inl (xw_t 268 rfl rfl), List.forall_mem_cons.mpr ⟨Or.inl (xw_t 20 rfl rfl), List.forall_mem_cons.mpr ⟨Or.inl (xw_t 21 rfl rfl), List.forall_mem_cons.mpr ⟨Or.inl (xw_t 269 rfl rfl), List.forall_mem_cons.mpr ⟨Or.inl (xw_t 274 rfl rfl), List.forall_mem_cons.mpr ⟨Or.inl (xw_t 281 rfl rfl), List.forall_mem_cons.mpr ⟨Or.inl (xw_t 297 rfl rfl), List.forall_mem_cons.mpr ⟨Or.inl (xw_t 256 rfl rfl), List.forall_mem_cons.mpr ⟨Or.inl (xw_t 298 rfl rfl), List.forall_mem_cons.mpr ⟨Or.inl (xw_t 258 rfl rfl), List.forall_mem_cons.mpr ⟨Or.inl (xw_t 299 rfl rfl), List.forall_mem_cons.mpr ⟨Or.inl (xw_t 260 rfl rfl), List.forall_mem_cons.mpr ⟨Or.inl (xw_t 270 rfl rfl), List.forall_mem_cons.mpr ⟨Or.inr (List.mem_of_getElem? (i := 2) rfl), List.forall_mem_cons.mpr ⟨Or.inl (xw_t 272 rfl rfl), List.forall_mem_cons.mpr ⟨Or.inr (List.mem_of_getElem? (i := 3) rfl), List.forall_mem_cons.mpr ⟨Or.inl (xw_t 262 rfl rfl), List.forall_mem_cons.mpr ⟨Or.inl (xw_t 475 rfl rfl), List.forall_mem_cons.mpr ⟨Or.inl (xw_t 476 rfl rfl), List.forall_mem_cons.mpr ⟨Or.inl (xw_t 477 rfl rfl), List.forall_mem_cons.mpr ⟨Or.inl (xw_t 290 rfl rfl), List.forall_mem_cons.mpr ⟨Or.inr (List.mem_of_getElem? (i := 8) rfl), List.forall_mem_cons.mpr ⟨Or.inl (xw_t 290 rfl rfl), List.forall_mem_cons.mpr ⟨Or.inl (xw_t 291 rfl rfl), List.forall_mem_cons.mpr ⟨Or.inl (xw_t 292 rfl rfl), List.forall_mem_cons.mpr ⟨Or.inl (xw_t 293 rfl rfl), List.forall_mem_cons.mpr ⟨Or.inr (List.mem_of_getElem? (i := 9) rfl), List.forall_mem_cons.mpr ⟨Or.inl (xw_t 293 rfl rfl), List.forall_mem_cons.mpr ⟨Or.inl (xw_t 294 rfl rfl), List.forall_mem_cons.mpr ⟨Or.inl (xw_t 295 rfl rfl), List.forall_mem_cons.mpr ⟨Or.inl (xw_t 267 rfl rfl), List.forall_mem_cons.mpr ⟨Or.inr (List.mem_of_getElem? (i := 10) rfl), List.forall_mem_cons.mpr ⟨Or.inl (xw_t 474 rfl rfl), List.forall_mem_cons.mpr ⟨Or.inl (xw_t 466 rfl rfl), List.forall_mem_cons.mpr ⟨Or.inr (List.mem_of_getElem? (i := 7) rfl), List.forall_mem_cons.mpr ⟨Or.inl (xw_t 468 rfl rfl), List.forall_mem_cons.mpr ⟨Or.inl (xw_t 279 rfl rfl), List.forall_mem_cons.mpr ⟨Or.inl (xw_t 469 rfl rfl), List.forall_mem_cons.mpr ⟨Or.inl (xw_t 470 rfl rfl), List.forall_mem_cons.mpr ⟨Or.inl (xw_t 471 rfl rfl), List.forall_mem_cons.mpr ⟨Or.inl (xw_t 472 rfl rfl), List.forall_mem_cons.mpr ⟨Or.inr (List.mem_of_getElem? (i := 0) rfl), List.forall_mem_cons.mpr ⟨Or.inr (List.mem_of_getElem? (i := 1) rfl), List.forall_mem_cons.mpr ⟨Or.inl (xw_t 265 rfl rfl), List.forall_mem_cons.mpr ⟨Or.inl (xw_t 264 rfl rfl), List.forall_mem_cons.mpr ⟨Or.inl (xw_t 473 rfl rfl), fun _ h => absurd h List.not_mem_nil⟩⟩⟩⟩⟩⟩⟩⟩⟩⟩⟩⟩⟩⟩⟩⟩⟩⟩⟩⟩⟩⟩⟩⟩⟩⟩⟩⟩⟩⟩⟩⟩⟩⟩⟩⟩⟩⟩⟩⟩⟩⟩⟩⟩⟩⟩⟩⟩⟩⟩⟩⟩⟩
theorem hkl_4 : Cond.classLink R_X 145 "java/util/NoSuchElementException" ∈ xw_ws := xw_t 465 rfl rfl
theorem hii_4 : Cond.initialized "java/util/NoSuchElementException" ∈ xw_ws := xw_t 13 rfl rfl
theorem hia_4 : Cond.instantiable "java/util/NoSuchElementException" 6 ∈ xw_ws := xw_t 466 rfl rfl
end
section
/-! The face: what a call answers or throws. -/
def xx_nm : Nat → String
  | 1 => "java/lang/IllegalArgumentException"
  | 2 => "java/lang/IllegalStateException"
  | 3 => "java/lang/UnsupportedOperationException"
  | _ => "java/util/NoSuchElementException"
/-- a method that throws -/
def xc_X (l : Launch) (y : MethodName) (cd : Cond) (g : xw_G) (B : Nat → Prop) (o lim : Nat) (σ τ : xs_S) (av : List Value) (E : Heap → Prop) (nm : String) (fr lo mc ms : Nat) : Prop :=
  ∀ sz : Nat, xe_Met l y (cd :: xw_ws) { frames := fr, cells := mc, slots := ms, locals := lo } (xc_P g B o lim σ av E sz) nm (fun t => xw_W g B o lim τ t) (xw_A o sz) mc ms (xw_A o sz)
/-- a call of the face: what it answers or throws, and the state behind it: code 0 answers; 1, 2, 3, 4 throw -/
def xf_Q (g : xw_G) (B : Nat → Prop) (o lim : Nat) (res : Nat × Int32 × xs_S) (sz : Nat) : Array Value → State → Outcome → State → Prop := xb_Q (fun v t => res.1 = 0 ∧ v = .int res.2.1 ∧ xw_W g B o lim res.2.2 t) (xw_A o sz)
def xf_X (g : xw_G) (B : Nat → Prop) (o lim : Nat) (res : Nat × Int32 × xs_S) (mc ms sz : Nat) : Array Value → State → Outcome → State → Prop := xe_Q (xx_nm res.1) (fun t => ¬ res.1 = 0 ∧ xw_W g B o lim res.2.2 t) (xw_A o sz) mc ms (xw_A o sz)
def xc_F (l : Launch) (y : MethodName) (cd : Cond) (g : xw_G) (B : Nat → Prop) (o lim : Nat) (σ : xs_S) (res : Nat × Int32 × xs_S) (av : List Value) (fr lo mc ms : Nat) : Prop :=
  ∀ sz : Nat, MetFree l y (headSpec (cd :: xw_ws) { frames := fr, cells := mc, slots := ms, locals := lo }) (xc_P g B o lim σ av (fun _ => True) sz) (fun _ _ _ _ _ => True)
    (fun a s oc t => (xf_Q g B o lim res sz a s oc t ∧ ∃ L, FrameEnd s oc t L mc ms ∧ ∀ q ∈ L, xw_A o sz q.base) ∨ xf_X g B o lim res mc ms sz a s oc t)
section XFH
variable {l : Launch} {y : MethodName} {own : String} {cc : ByteArray} {maxL : Nat} {ret : Option FieldType} {g : xw_G} {B : Nat → Prop} {o lim : Nat} {σ τ : xs_S} {av : List Value} {E : Heap → Prop} {fr lo mc ms : Nat} {nm : String} {res : Nat × Int32 × xs_S}
theorem xh_X (hy : plainName y.cls = true) (ho : y.cls = own) (hn : (lg_sl av).length ≤ maxL)
    (body : ∀ (p : Program) (e : Env) (R : Room) (s : State) (m : MethodId) (below : List Frame) (meth : Method) (c : Code) (ls : Array Slot), R.frames = fr → R.locals = lo → R.cells = mc → R.slots = ms → (∀ x ∈ c.exceptionTable.toList, False) → xh_C p s m av.toArray meth c own cc maxL ret → xw_W g B o lim σ s → E s.heap → lv_has ls maxL (lv_args 0 av) →
      W p l e R s m av.toArray below meth c s.heap [] 0 0 (xe_MQ below (fun _ _ _ _ => False) (xe_Q nm (fun t => xw_W g B o lim τ t) (xw_A o s.heap.size) mc ms (xw_A o s.heap.size)) av.toArray s mc ms (xw_A o s.heap.size)) (F0 m 0 ls [])) : xc_X l y (Cond.code y cc maxL ret) g B o lim σ τ av E nm fr lo mc ms := by
  intro sz
  refine xe_throws (Qc := fun _ _ _ _ => False) (X := xe_Q nm (fun t => xw_W g B o lim τ t) (xw_A o sz) mc ms (xw_A o sz)) (xe_ofW (cc := cc) (maxL := maxL) (ret := ret) hy rfl ?_) (fun _ _ h => h) (fun _ _ _ _ _ h => h) (fun _ _ _ _ _ h => h)
  intro p e s m args below meth c s₁ B0 hml hxt hv
  obtain ⟨rfl, hsz, hW, hE⟩ := hv
  subst hsz
  have hts := atoms_spec (ws := Cond.code y cc maxL ret :: xw_ws) B0.pre
  have hown : s.vm.findClass own = some m.cls := ho ▸ findClass_of_methodNamed B0.named
  have hl := lv_entry av (n := maxL) hn
  rw [lg_entry_eq]
  exact body p e _ s m below meth c _ rfl rfl rfl rfl hxt ⟨B0.exec, B0.bytes, hml, B0.returns, hown, fun w h => hts w (List.mem_cons_of_mem _ h), B0.notSynchronized⟩ hW hE hl
theorem xh_F (hy : plainName y.cls = true) (ho : y.cls = own) (hn : (lg_sl av).length ≤ maxL)
    (body : ∀ (p : Program) (e : Env) (R : Room) (s : State) (m : MethodId) (below : List Frame) (meth : Method) (c : Code) (ls : Array Slot), R.frames = fr → R.locals = lo → R.cells = mc → R.slots = ms → (∀ x ∈ c.exceptionTable.toList, False) → xh_C p s m av.toArray meth c own cc maxL ret → xw_W g B o lim σ s → lv_has ls maxL (lv_args 0 av) →
      W p l e R s m av.toArray below meth c s.heap [] 0 0 (xe_MQ below (xf_Q g B o lim res s.heap.size) (xf_X g B o lim res mc ms s.heap.size) av.toArray s mc ms (xw_A o s.heap.size)) (F0 m 0 ls [])) : xc_F l y (Cond.code y cc maxL ret) g B o lim σ res av fr lo mc ms := by
  intro sz
  refine xe_ofW (cc := cc) (maxL := maxL) (ret := ret) hy rfl ?_
  intro p e s m args below meth c s₁ B0 hml hxt hv
  obtain ⟨rfl, hsz, hW, -⟩ := hv
  subst hsz
  have hts := atoms_spec (ws := Cond.code y cc maxL ret :: xw_ws) B0.pre
  have hown : s.vm.findClass own = some m.cls := ho ▸ findClass_of_methodNamed B0.named
  have hl := lv_entry av (n := maxL) hn
  rw [lg_entry_eq]
  exact body p e _ s m below meth c _ rfl rfl rfl rfl hxt ⟨B0.exec, B0.bytes, hml, B0.returns, hown, fun w h => hts w (List.mem_cons_of_mem _ h), B0.notSynchronized⟩ hW hl
end XFH
section XFK
variable {p : Program} {l : Launch} {e : Env} {R : Room} {s : State} {m : MethodId} {args : Array Value} {below : List Frame} {meth : Method} {c : Code} {H : Heap} {locs : List Loc} {cells slots : Nat} {Q : State → Prop}
variable {cc bytes : ByteArray} {pc nL maxL index fr lo mc ms : Nat} {ls : Array Slot} {rest st0 As : List Value} {own C : String} {y : MethodName} {ret ret0 : Option FieldType} {g : xw_G} {B : Nat → Prop} {o lim b : Nat} {σ0 σ τ : xs_S} {E : Heap → Prop} {nm : String} {res : Nat × Int32 × xs_S} {Qc : Array Value → State → Outcome → State → Prop}
/-- a static call that throws -/
theorem xk_sX (hM : xc_X l y (Cond.code y bytes maxL ret) g B o lim σ τ As E nm fr lo mc ms) (hG : GoodIn xw_ws (wsS own index y (Cond.code y bytes maxL ret :: xw_ws)))
    (hd : y.cls = own ∧ y.cls ≠ "java/lang/invoke/MethodHandle" ∧ y.cls ≠ "java/lang/invoke/VarHandle" ∧ (parseMethodDescriptor y.desc).map (fun d => d.parameters.length) = some As.length)
    (hC : xh_C p s m args meth c own cc nL ret0) (hW : xw_W g B o lim σ0 s) (hX : xw_R g B o σ H) (hS : va_S (xw_A o s.heap.size) s.heap H locs) (hE : E H)
    (hRf : fr + 1 ≤ R.frames) (hRl : 8 + (maxL + 11) + lo ≤ R.locals) (hRc : cells + mc ≤ R.cells) (hRs : slots + ms ≤ R.slots)
    (hls : ls.size = nL) (hst : st0 = As.reverse ++ rest) (hrm : (rest.map fun v => v.category).sum ≤ 8) (hdg : decode cc pc = .ok (.invokestatic index, 3))
    (kx : ∀ (ce : Cell) (q9 : Addr) (H1 : Heap) (locs1 : List Loc), xw_R g B o τ H1 → va_S (xw_A o s.heap.size) s.heap H1 locs1 → H1[q9]? = some ce → ce.vm = .none → s.vm.findClass nm = some ce.cls → xe_W p l e R s m args below meth c H1 locs1 (cells + mc) (slots + ms) Q (F0 m pc ls rest) q9) : W p l e R s m args below meth c H locs cells slots Q (F0 m pc ls st0) := by
  obtain ⟨hx, hb, hml, -, hown, hts, -⟩ := hC
  exact xe_callS (As := As) (rest := rest) ⟨hx, hb, hml, hown, hts⟩ (hM H.size) (cwS As.length hts hG rfl rfl rfl hd ⟨hRf, hRl⟩) ⟨xc_P.blind, fun U hU hw => ⟨rfl, by rw [hU], hW.to hX hS hU hw.alike, by rw [hU]; exact hE⟩⟩ rfl hls hst hrm hdg hRc hRs hS (xk_A hS) (xk_A hS)
    (fun ce q9 t locs1 _ hB _ _ hS1 h1 h2 h3 => kx ce q9 t.heap locs1 hB.1 hS1 h1 h2 h3)
theorem xr_F (hC : xh_C p s m args meth c own cc nL (some .int)) (hW : xw_W g B o lim σ0 s) (hX : xw_R g B o σ H) (hS : va_S (xw_A o s.heap.size) s.heap H locs) (hc : cells ≤ mc) (hs : slots ≤ ms) {v : Int32} (he : res = (0, v, σ)) {X : Array Value → State → Outcome → State → Prop} (hdg : decode cc pc = .ok (.ireturn, 1)) :
    W p l e R s m args below meth c H locs cells slots (xe_MQ below (xf_Q g B o lim res s.heap.size) X args s mc ms (xw_A o s.heap.size)) (F0 m pc ls [.int v]) := by
  obtain ⟨hx, hb, -, hr, -, -, hlk⟩ := hC
  subst he
  exact xe_ret (W.widen hc hs (W.iret hx hb hr (fun t ht hw => ⟨⟨.int v, rfl, rfl, rfl, hW.to hX hS ht hw.alike⟩, hS.F ht⟩) hS.2.2 hdg hlk))
/-- a thrown thing leaves a call of the face -/
theorem xr_FX (hC : xh_C p s m args meth c own cc nL ret0) (hxt : ∀ x ∈ c.exceptionTable.toList, False) (hW : xw_W g B o lim σ0 s) (hX : xw_R g B o σ H) (hS : va_S (xw_A o s.heap.size) s.heap H locs) (hc : cells ≤ mc) (hs : slots ≤ ms) {ce : Cell} {q9 : Addr} (h1 : H[q9]? = some ce) (h2 : ce.vm = .none) (h3 : s.vm.findClass nm = some ce.cls) {k : Nat} {v : Int32} (he : res = (k + 1, v, σ)) (hn : nm = xx_nm (k + 1)) :
    xe_W p l e R s m args below meth c H locs cells slots (xe_MQ below Qc (xf_X g B o lim res mc ms s.heap.size) args s mc ms (xw_A o s.heap.size)) (F0 m pc ls rest) q9 := by
  obtain ⟨-, -, -, -, -, -, hlk⟩ := hC
  subst he
  subst hn
  exact xe_out hxt hlk h1 h2 h3 (fun t ht hvm => ⟨(fun z => nomatch z), hW.to hX hS ht hvm⟩) hS hS.2.2 hc hs
theorem xr_W {t : State} {σ9 : xs_S} (hW : xw_W g B o lim σ0 s) (hX : xw_R g B o σ9 H) (hS : va_S (xw_A o s.heap.size) s.heap H locs) (hvm : s.vm.Alike t.vm) (hz : H.size ≤ t.heap.size) (hq : ∀ q : Nat, q < H.size → t.heap[q]? = H[q]?) : xw_W g B o lim σ9 t :=
  hW.to (hX.grow ⟨hz, fun q h _ => hq q h⟩) (locs := locs) ⟨Nat.le_trans hS.1 hz, fun q h1 h2 => (hq q (Nat.lt_of_lt_of_le h1 hS.1)).trans (hS.2.1 q h1 h2), hS.2.2⟩ rfl hvm
/-- 'throw new' in a method that only throws -/
theorem xr_TX {ik ic : Nat} (hC : xh_C p s m args meth c R_X cc nL ret0) (hsl : l.stackTraces = false) (hxt : ∀ x ∈ c.exceptionTable.toList, False) (hW : xw_W g B o lim σ0 s) (hX : xw_R g B o τ H) (hS : va_S (xw_A o s.heap.size) s.heap H locs) (hls : ls.size = nL)
    (hfit : Bundle.fit nm = true) (hk : Cond.classLink R_X ik nm ∈ xw_ws) (hini : Cond.initialized nm ∈ xw_ws) (hins : Cond.instantiable nm 6 ∈ xw_ws) (hat : ∀ w ∈ Bundle.ownAtoms0 R_X ic nm ["java/lang/RuntimeException", "java/lang/Exception"], w ∈ xw_ws ∨ w ∈ xt_no)
    (d0 : decode cc pc = .ok (.new ik, 3)) (d3 : decode cc (pc + 3) = .ok (.dup, 1)) (d4 : decode cc (pc + 4) = .ok (.invokespecial ic, 3)) (d7 : decode cc (pc + 7) = .ok (.athrow, 1))
    (hRf : 5 < R.frames) (hRl : 81 ≤ R.locals) (hRc : cells + 1 ≤ R.cells) (hRs : slots + 6 ≤ R.slots) (hc : cells + 1 ≤ mc) (hs : slots + 6 ≤ ms) :
    W p l e R s m args below meth c H locs cells slots (xe_MQ below Qc (xe_Q nm (fun t => xw_W g B o lim τ t) (xw_A o s.heap.size) mc ms (xw_A o s.heap.size)) args s mc ms (xw_A o s.heap.size)) (F0 m pc ls []) := by
  obtain ⟨hx, hb, hml, -, hown, hts, hlk⟩ := hC
  exact xe_throw0 hx hb hsl hown hfit (List.forall_mem_cons.mpr ⟨rfl, List.forall_mem_cons.mpr ⟨rfl, fun _ h => absurd h List.not_mem_nil⟩⟩) hk hini hins hat hts hW.2.2.1
    (fun q hq => hq.elim (fun z => Nat.le_trans hW.2.2.2 z.1) (fun z => Nat.le_trans hW.2.2.2 (Nat.le_trans (Nat.le_trans (Nat.le_add_right _ _) hW.1.lt) z))) hS (hls.trans hml.symm) d0 d3 d4 d7 hxt hRf hRl hRc hRs hlk (fun t h1 h2 h3 => xr_W hW hX hS h1 h2 h3) hS.2.2 hc hs
/-- 'throw new' in a call of the face -/
theorem xr_T {ik ic : Nat} (hC : xh_C p s m args meth c R_X cc nL ret0) (hsl : l.stackTraces = false) (hxt : ∀ x ∈ c.exceptionTable.toList, False) (hW : xw_W g B o lim σ0 s) (hX : xw_R g B o σ H) (hS : va_S (xw_A o s.heap.size) s.heap H locs) (hls : ls.size = nL)
    {k : Nat} {v : Int32} (he : res = (k + 1, v, σ)) (hfit : Bundle.fit (xx_nm (k + 1)) = true) (hk : Cond.classLink R_X ik (xx_nm (k + 1)) ∈ xw_ws) (hini : Cond.initialized (xx_nm (k + 1)) ∈ xw_ws) (hins : Cond.instantiable (xx_nm (k + 1)) 6 ∈ xw_ws) (hat : ∀ w ∈ Bundle.ownAtoms0 R_X ic (xx_nm (k + 1)) ["java/lang/RuntimeException", "java/lang/Exception"], w ∈ xw_ws ∨ w ∈ xt_no)
    (d0 : decode cc pc = .ok (.new ik, 3)) (d3 : decode cc (pc + 3) = .ok (.dup, 1)) (d4 : decode cc (pc + 4) = .ok (.invokespecial ic, 3)) (d7 : decode cc (pc + 7) = .ok (.athrow, 1))
    (hRf : 5 < R.frames) (hRl : 81 ≤ R.locals) (hRc : cells + 1 ≤ R.cells) (hRs : slots + 6 ≤ R.slots) (hc : cells + 1 ≤ mc) (hs : slots + 6 ≤ ms) :
    W p l e R s m args below meth c H locs cells slots (xe_MQ below Qc (xf_X g B o lim res mc ms s.heap.size) args s mc ms (xw_A o s.heap.size)) (F0 m pc ls []) := by
  obtain ⟨hx, hb, hml, -, hown, hts, hlk⟩ := hC
  subst he
  exact xe_throw0 hx hb hsl hown hfit (List.forall_mem_cons.mpr ⟨rfl, List.forall_mem_cons.mpr ⟨rfl, fun _ h => absurd h List.not_mem_nil⟩⟩) hk hini hins hat hts hW.2.2.1
    (fun q hq => hq.elim (fun z => Nat.le_trans hW.2.2.2 z.1) (fun z => Nat.le_trans hW.2.2.2 (Nat.le_trans (Nat.le_trans (Nat.le_add_right _ _) hW.1.lt) z))) hS (hls.trans hml.symm) d0 d3 d4 d7 hxt hRf hRl hRc hRs hlk (fun t h1 h2 h3 => ⟨(fun z => nomatch z), xr_W hW hX hS h1 h2 h3⟩) hS.2.2 hc hs
end XFK
-- what the face needs of the pure state
theorem xs_cn_send {σ : xs_S} {z : xs_Z} : xs_cn (xm_send σ z) = xs_cn σ := xm_same_send.2.1
theorem xs_cn_stw {n j : Nat} {σ : xs_S} {a i : Nat} {k : Int32} : xs_cn (xm_stw n j σ a i k) = xs_cn σ := (xm_same_stw n).2.1
theorem xs_cn_sp {n i : Nat} {σ : xs_S} {a t k : Int32} : xs_cn (xm_sp n i σ a t k) = xs_cn σ := (xm_same_sp n).2.1
theorem xs_cn_so {n j : Nat} {σ : xs_S} {a c : Nat} : xs_cn (xm_so n j σ a c) = xs_cn σ := (xm_same_so n).2.1
theorem xs_cn_com {σ : xs_S} {a b : Nat} {k : Int32} : xs_cn (xm_com σ a b k) = xs_cn σ := xm_same_com.2.1
theorem xm_spr_ac {σ : xs_S} {i : Nat} {v : Int32} : (xs_cn (xm_spr σ i v) i).2.1 = (xs_cn σ i).2.1 := by
  unfold xm_spr
  rw [xs_cn_scn]
theorem xm_x4 {x : Int32} (h1 : ¬ x < 4) (h2 : ¬ 12 ≤ x) : vp_in (x - 4) 8 := by
  obtain ⟨j, hj, rfl⟩ := nI_of (x := x) (fun h => h1 (Int32.lt_trans h (by decide)))
  have h3 : 4 ≤ j := Nat.not_lt.mp fun h => h1 (nI_lt h (by decide))
  have h4 : j < 12 := Nat.not_le.mp fun h => h2 (nI_le h hj)
  obtain ⟨k, rfl⟩ : ∃ k, j = k + 4 := ⟨j - 4, by omega⟩
  have h5 : nI (k + 4) - 4 = nI k := by
    rw [nI_succ, nI_succ, nI_succ, nI_succ, Int32.sub_eq_add_neg, Int32.add_assoc, Int32.add_assoc, Int32.add_assoc, Int32.add_assoc]
    exact Int32.add_zero _
  rw [h5]
  exact vp_in_nI (by omega) (by decide)
theorem xm_len0 {l : List xs_Z} (h : nI l.length = 0) (hl : l.length < 2 ^ 31) : l = [] := by
  cases l with
  | nil => rfl
  | cons z t => exact absurd h (nI_ne0 (Nat.succ_pos _) hl)
theorem xm_len1 {l : List xs_Z} (h : ¬ nI l.length = 0) : ∃ z t, l = z :: t := by
  cases l with
  | nil => exact absurd rfl h
  | cons z t => exact ⟨z, t, rfl⟩
end
section
/-! The face, by program. -/
set_option maxHeartbeats 4000000 in
set_option maxRecDepth 100000 in
theorem c_X_checkArgument_1 (l : Launch) (g : xw_G) (B : Nat → Prop) (o lim : Nat) (σ : xs_S) : xc_V l y_X_checkArgument (Cond.code y_X_checkArgument b_X_checkArgument 1 none) g B o lim σ σ [.int 1] (fun _ => True) 6 89 0 0 := by
  refine xh_V (own := R_X) (by decide) rfl (Nat.le_of_ble_eq_true rfl) ?_
  intro p e R s m below meth c ls hRf hRl hRc hRs hC hW hE hl
  obtain ⟨hx, hb, hml, hr, hown, hts, hlk⟩ := id hC
  have hX := hW.1
  have hK := hW.2.1
  have hS : va_S (xw_A o s.heap.size) s.heap s.heap [] := va_S.rf
  have hl : lv_has ls 1 [(0, .int 1)] := hl
  refine lv_iload_n hx hb d_X_checkArgument_0 rfl (lv_at hl 0 rfl) ?_
  refine lv_if_ne (tgt := 12) hx hb d_X_checkArgument_1 (by decide) (fun c_1 => ?_) (fun c_1 => absurd c_1 (by decide))
  exact xr_V (τ := σ) hC hW hX hS (by omega) (by omega) rfl d_X_checkArgument_12
set_option maxHeartbeats 4000000 in
set_option maxRecDepth 100000 in
theorem c_X_checkArgument_0 (l : Launch) (hsl : l.stackTraces = false) (g : xw_G) (B : Nat → Prop) (o lim : Nat) (σ : xs_S) : xc_X l y_X_checkArgument (Cond.code y_X_checkArgument b_X_checkArgument 1 none) g B o lim σ σ [.int 0] (fun _ => True) "java/lang/IllegalArgumentException" 6 89 1 6 := by
  refine xh_X (own := R_X) (by decide) rfl (Nat.le_of_ble_eq_true rfl) ?_
  intro p e R s m below meth c ls hRf hRl hRc hRs hxt hC hW hE hl
  obtain ⟨hx, hb, hml, hr, hown, hts, hlk⟩ := id hC
  have hX := hW.1
  have hK := hW.2.1
  have hS : va_S (xw_A o s.heap.size) s.heap s.heap [] := va_S.rf
  have hl : lv_has ls 1 [(0, .int 0)] := hl
  refine lv_iload_n hx hb d_X_checkArgument_0 rfl (lv_at hl 0 rfl) ?_
  refine lv_if_ne (tgt := 12) hx hb d_X_checkArgument_1 (by decide) (fun c_1 => (c_1 (by decide)).elim) (fun c_1 => ?_)
  exact xr_TX hC hsl hxt hW hX hS hl.1 rfl hkl_1 hii_1 hia_1 hat_1 d_X_checkArgument_4 d_X_checkArgument_7 d_X_checkArgument_8 d_X_checkArgument_11 (by omega) (by omega) (by omega) (by omega) (by omega) (by omega)
set_option maxHeartbeats 4000000 in
set_option maxRecDepth 100000 in
theorem c_X_checkState_1 (l : Launch) (g : xw_G) (B : Nat → Prop) (o lim : Nat) (σ : xs_S) : xc_V l y_X_checkState (Cond.code y_X_checkState b_X_checkState 1 none) g B o lim σ σ [.int 1] (fun _ => True) 6 89 0 0 := by
  refine xh_V (own := R_X) (by decide) rfl (Nat.le_of_ble_eq_true rfl) ?_
  intro p e R s m below meth c ls hRf hRl hRc hRs hC hW hE hl
  obtain ⟨hx, hb, hml, hr, hown, hts, hlk⟩ := id hC
  have hX := hW.1
  have hK := hW.2.1
  have hS : va_S (xw_A o s.heap.size) s.heap s.heap [] := va_S.rf
  have hl : lv_has ls 1 [(0, .int 1)] := hl
  refine lv_iload_n hx hb d_X_checkState_0 rfl (lv_at hl 0 rfl) ?_
  refine lv_if_ne (tgt := 12) hx hb d_X_checkState_1 (by decide) (fun c_1 => ?_) (fun c_1 => absurd c_1 (by decide))
  exact xr_V (τ := σ) hC hW hX hS (by omega) (by omega) rfl d_X_checkState_12
set_option maxHeartbeats 4000000 in
set_option maxRecDepth 100000 in
theorem c_X_checkState_0 (l : Launch) (hsl : l.stackTraces = false) (g : xw_G) (B : Nat → Prop) (o lim : Nat) (σ : xs_S) : xc_X l y_X_checkState (Cond.code y_X_checkState b_X_checkState 1 none) g B o lim σ σ [.int 0] (fun _ => True) "java/lang/IllegalStateException" 6 89 1 6 := by
  refine xh_X (own := R_X) (by decide) rfl (Nat.le_of_ble_eq_true rfl) ?_
  intro p e R s m below meth c ls hRf hRl hRc hRs hxt hC hW hE hl
  obtain ⟨hx, hb, hml, hr, hown, hts, hlk⟩ := id hC
  have hX := hW.1
  have hK := hW.2.1
  have hS : va_S (xw_A o s.heap.size) s.heap s.heap [] := va_S.rf
  have hl : lv_has ls 1 [(0, .int 0)] := hl
  refine lv_iload_n hx hb d_X_checkState_0 rfl (lv_at hl 0 rfl) ?_
  refine lv_if_ne (tgt := 12) hx hb d_X_checkState_1 (by decide) (fun c_1 => (c_1 (by decide)).elim) (fun c_1 => ?_)
  exact xr_TX hC hsl hxt hW hX hS hl.1 rfl hkl_2 hii_2 hia_2 hat_2 d_X_checkState_4 d_X_checkState_7 d_X_checkState_8 d_X_checkState_11 (by omega) (by omega) (by omega) (by omega) (by omega) (by omega)
set_option maxHeartbeats 4000000 in
set_option maxRecDepth 100000 in
theorem c_X_register (l : Launch) (hsl : l.stackTraces = false) (g : xw_G) (B : Nat → Prop) (o lim : Nat) (σ : xs_S) (x : Int32) (y : Int32) : xc_F l y_X_register (Cond.code y_X_register b_X_register 4 (some .int)) g B o lim σ (xp_register σ x y) [.ref o, .int x, .int y] 7 109 2 12 := by
  refine xh_F (own := R_X) (by decide) rfl (Nat.le_of_ble_eq_true rfl) ?_
  intro p e R s m below meth c ls hRf hRl hRc hRs hxt hC hW hl
  obtain ⟨hx, hb, hml, hr, hown, hts, hlk⟩ := id hC
  have hX := hW.1
  have hK := hW.2.1
  have hS : va_S (xw_A o s.heap.size) s.heap s.heap [] := va_S.rf
  have hl : lv_has ls 4 [(0, .ref o), (1, .int x), (2, .int y)] := hl
  refine lv_iload_n hx hb d_X_register_0 rfl (lv_at hl 1 rfl) ?_
  refine xk_sQ (rest := []) (c_X_isAccount l g B o lim σ x) gd_X_X_isAccount hd_X_isAccount hC hW hX hS trivial (by omega) (by omega) (by omega) (by omega) hl.1 rfl (Nat.le_of_ble_eq_true rfl) d_X_register_1 (fun v8 H locs hv hX hS hF => ?_)
  obtain rfl := hv
  refine lv_if_eq (tgt := 22) hx hb d_X_register_4 (by decide) (fun c_1 => ?_) (fun c_1 => ?_)
  · have c_1 := xs_b0 c_1
    refine lv_iconst (v := 0) hx hb d_X_register_22 (by decide) ?_
    refine xk_sX (rest := []) (c_X_checkArgument_0 l hsl g B o lim σ) gd_X_X_checkArgument hd_X_checkArgument hC hW hX hS trivial (by omega) (by omega) (by omega) (by omega) hl.1 rfl (Nat.le_of_ble_eq_true rfl) d_X_register_23 (fun ce9 q9 H locs hX hS e1 e2 e3 => ?_)
    exact xr_FX hC hxt hW hX hS (by omega) (by omega) e1 e2 e3 (k := 0) (v := 0) (by simp only [xp_register, c_1, if_true, if_false, reduceIte, Bool.false_eq_true, Bool.true_eq_false, and_true, true_and, and_false, false_and, or_true, true_or, or_false, false_or, not_true_eq_false, not_false_eq_true] <;> rfl) rfl
  · have c_1 := xs_b1 c_1
    refine lv_iload_n hx hb d_X_register_7 rfl (lv_at hl 2 rfl) ?_
    refine lv_if_lt (tgt := 22) hx hb d_X_register_8 (by decide) (fun c_2 => ?_) (fun c_2 => ?_)
    · refine lv_iconst (v := 0) hx hb d_X_register_22 (by decide) ?_
      refine xk_sX (rest := []) (c_X_checkArgument_0 l hsl g B o lim σ) gd_X_X_checkArgument hd_X_checkArgument hC hW hX hS trivial (by omega) (by omega) (by omega) (by omega) hl.1 rfl (Nat.le_of_ble_eq_true rfl) d_X_register_23 (fun ce9 q9 H locs hX hS e1 e2 e3 => ?_)
      exact xr_FX hC hxt hW hX hS (by omega) (by omega) e1 e2 e3 (k := 0) (v := 0) (by simp only [xp_register, c_1, c_2, if_true, if_false, reduceIte, Bool.false_eq_true, Bool.true_eq_false, and_true, true_and, and_false, false_and, or_true, true_or, or_false, false_or, not_true_eq_false, not_false_eq_true] <;> rfl) rfl
    · refine lv_iload_n hx hb d_X_register_11 rfl (lv_at hl 2 rfl) ?_
      refine lv_sipush (v := 9999) hx hb d_X_register_12 (by decide) ?_
      refine lv_icmp_gt (tgt := 22) hx hb d_X_register_15 (by decide) (fun c_3 => ?_) (fun c_3 => ?_)
      · refine lv_iconst (v := 0) hx hb d_X_register_22 (by decide) ?_
        refine xk_sX (rest := []) (c_X_checkArgument_0 l hsl g B o lim σ) gd_X_X_checkArgument hd_X_checkArgument hC hW hX hS trivial (by omega) (by omega) (by omega) (by omega) hl.1 rfl (Nat.le_of_ble_eq_true rfl) d_X_register_23 (fun ce9 q9 H locs hX hS e1 e2 e3 => ?_)
        exact xr_FX hC hxt hW hX hS (by omega) (by omega) e1 e2 e3 (k := 0) (v := 0) (by simp only [xp_register, c_1, c_2, c_3, if_true, if_false, reduceIte, Bool.false_eq_true, Bool.true_eq_false, and_true, true_and, and_false, false_and, or_true, true_or, or_false, false_or, not_true_eq_false, not_false_eq_true] <;> rfl) rfl
      · refine lv_iconst (v := 1) hx hb d_X_register_18 (by decide) ?_
        refine lv_goto (tgt := 23) hx hb d_X_register_19 (by decide) ?_
        refine xk_sV (rest := []) (c_X_checkArgument_1 l g B o lim σ) gd_X_X_checkArgument hd_X_checkArgument hC hW hX hS trivial (by omega) (by omega) (by omega) (by omega) hl.1 rfl (Nat.le_of_ble_eq_true rfl) d_X_register_23 (fun H locs hX hS hF => ?_)
        refine lv_aload_n hx hb d_X_register_26 rfl (lv_at hl 0 rfl) ?_
        obtain ⟨v9, hXo, hXl⟩ := hX.1
        refine gf_X_X_accounts hx hb hts hown hK hXo rfl d_X_register_27 ?_
        refine lv_iload_n hx hb d_X_register_30 rfl (lv_at hl 1 rfl) ?_
        refine xb_aald (v := o + 3 + 4 * (xs_ix x)) hx hb hK 0 rfl hX.2.1 (xm_in8t c_1) rfl d_X_register_31 ?_
        refine lv_astore_n (lv' := [(3, .ref (o + 3 + 4 * (xs_ix x))), (0, .ref o), (1, .int x), (2, .int y)]) hx hb d_X_register_32 rfl hl (by decide) rfl (fun ls hl => ?_)
        refine lv_aload_n hx hb d_X_register_33 rfl (lv_at hl 0 rfl) ?_
        refine gf_X_A_registered hx hb hts hown hK (hX.2.2.2.1 (xs_ix x) (xs_ixl (xm_in8t c_1))) rfl d_X_register_34 ?_
        refine lv_if_ne (tgt := 44) hx hb d_X_register_37 (by decide) (fun c_4 => ?_) (fun c_4 => ?_)
        · have c_4 := xs_b1 c_4
          refine lv_iconst (v := 0) hx hb d_X_register_44 (by decide) ?_
          refine xk_sX (rest := []) (c_X_checkState_0 l hsl g B o lim σ) gd_X_X_checkState hd_X_checkState hC hW hX hS trivial (by omega) (by omega) (by omega) (by omega) hl.1 rfl (Nat.le_of_ble_eq_true rfl) d_X_register_45 (fun ce9 q9 H locs hX hS e1 e2 e3 => ?_)
          exact xr_FX hC hxt hW hX hS (by omega) (by omega) e1 e2 e3 (k := 1) (v := 0) (by simp only [xp_register, c_1, c_2, c_3, c_4, if_true, if_false, reduceIte, Bool.false_eq_true, Bool.true_eq_false, and_true, true_and, and_false, false_and, or_true, true_or, or_false, false_or, not_true_eq_false, not_false_eq_true] <;> rfl) rfl
        · have c_4 := xs_b0 c_4
          refine lv_iconst (v := 1) hx hb d_X_register_40 (by decide) ?_
          refine lv_goto (tgt := 45) hx hb d_X_register_41 (by decide) ?_
          refine xk_sV (rest := []) (c_X_checkState_1 l g B o lim σ) gd_X_X_checkState hd_X_checkState hC hW hX hS trivial (by omega) (by omega) (by omega) (by omega) hl.1 rfl (Nat.le_of_ble_eq_true rfl) d_X_register_45 (fun H locs hX hS hF => ?_)
          refine lv_aload_n hx hb d_X_register_48 rfl (lv_at hl 0 rfl) ?_
          refine lv_iconst (v := 1) hx hb d_X_register_49 (by decide) ?_
          refine pf_X_A_registered (b := true) hx hb hts hown hK hX hS (xs_ixl (xm_in8t c_1)) d_X_register_50 (fun H locs hX hS hF => ?_)
          refine lv_aload_n hx hb d_X_register_53 rfl (lv_at hl 0 rfl) ?_
          refine lv_iload_n hx hb d_X_register_54 rfl (lv_at hl 3 rfl) ?_
          refine pf_X_A_password hx hb hts hown hK hX hS (xs_ixl (xm_in8t c_1)) d_X_register_55 (fun H locs hX hS hF => ?_)
          refine lv_iconst (v := 1) hx hb d_X_register_58 (by decide) ?_
          exact xr_F hC hW hX hS (by omega) (by omega) (by simp only [xp_register, c_1, c_2, c_3, c_4, xs_cn_scn, xs_nx_scn, xs_up_scn, xs_lt_scn, xs_q_scn, xs_ac_scn, xs_mk_scn, xs_ac_sac, xs_sac_sac, xs_nx_sg, xs_up_sg, xs_lt_sg, xs_cn_sg, xs_q_sg, if_true, if_false, reduceIte, Bool.false_eq_true, Bool.true_eq_false, and_true, true_and, and_false, false_and, or_true, true_or, or_false, false_or, not_true_eq_false, not_false_eq_true] <;> rfl) d_X_register_59
set_option maxHeartbeats 4000000 in
set_option maxRecDepth 100000 in
theorem c_X_connect (l : Launch) (hsl : l.stackTraces = false) (g : xw_G) (B : Nat → Prop) (o lim : Nat) (σ : xs_S) (x : Int32) : xc_F l y_X_connect (Cond.code y_X_connect b_X_connect 3 (some .int)) g B o lim σ (xp_connect σ x) [.ref o, .int x] 7 109 2 12 := by
  refine xh_F (own := R_X) (by decide) rfl (Nat.le_of_ble_eq_true rfl) ?_
  intro p e R s m below meth c ls hRf hRl hRc hRs hxt hC hW hl
  obtain ⟨hx, hb, hml, hr, hown, hts, hlk⟩ := id hC
  have hX := hW.1
  have hK := hW.2.1
  have hS : va_S (xw_A o s.heap.size) s.heap s.heap [] := va_S.rf
  have hl : lv_has ls 3 [(0, .ref o), (1, .int x)] := hl
  refine lv_iload_n hx hb d_X_connect_0 rfl (lv_at hl 1 rfl) ?_
  refine xk_sQ (rest := []) (c_X_isConnection l g B o lim σ x) gd_X_X_isConnection hd_X_isConnection hC hW hX hS trivial (by omega) (by omega) (by omega) (by omega) hl.1 rfl (Nat.le_of_ble_eq_true rfl) d_X_connect_1 (fun v8 H locs hv hX hS hF => ?_)
  obtain rfl := hv
  cases c_1 : (xm_in6 x) with
  | false =>
    refine xk_sX (rest := []) (c_X_checkArgument_0 l hsl g B o lim σ) gd_X_X_checkArgument hd_X_checkArgument hC hW hX hS trivial (by omega) (by omega) (by omega) (by omega) hl.1 rfl (Nat.le_of_ble_eq_true rfl) d_X_connect_4 (fun ce9 q9 H locs hX hS e1 e2 e3 => ?_)
    exact xr_FX hC hxt hW hX hS (by omega) (by omega) e1 e2 e3 (k := 0) (v := 0) (by simp only [xp_connect, c_1, if_true, if_false, reduceIte, Bool.false_eq_true, Bool.true_eq_false, and_true, true_and, and_false, false_and, or_true, true_or, or_false, false_or, not_true_eq_false, not_false_eq_true] <;> rfl) rfl
  | true =>
    refine xk_sV (rest := []) (c_X_checkArgument_1 l g B o lim σ) gd_X_X_checkArgument hd_X_checkArgument hC hW hX hS trivial (by omega) (by omega) (by omega) (by omega) hl.1 rfl (Nat.le_of_ble_eq_true rfl) d_X_connect_4 (fun H locs hX hS hF => ?_)
    refine lv_aload_n hx hb d_X_connect_7 rfl (lv_at hl 0 rfl) ?_
    obtain ⟨v9, hXo, hXl⟩ := hX.1
    refine gf_X_X_connections hx hb hts hown hK hXo rfl d_X_connect_8 ?_
    refine lv_iload_n hx hb d_X_connect_11 rfl (lv_at hl 1 rfl) ?_
    refine xb_aald (v := o + 36 + 3 * (xs_ix x)) hx hb hK 1 rfl hX.2.2.1 (xm_in6t c_1) rfl d_X_connect_12 ?_
    refine lv_astore_n (lv' := [(2, .ref (o + 36 + 3 * (xs_ix x))), (0, .ref o), (1, .int x)]) hx hb d_X_connect_13 rfl hl (by decide) rfl (fun ls hl => ?_)
    refine lv_aload_n hx hb d_X_connect_14 rfl (lv_at hl 0 rfl) ?_
    refine gf_X_C_stage hx hb hts hown hK (hX.2.2.2.2.2.1 (xs_ix x) (xs_ixl (xm_in6t c_1))) rfl d_X_connect_15 ?_
    refine lv_if_ne (tgt := 25) hx hb d_X_connect_18 (by decide) (fun c_2 => ?_) (fun c_2 => ?_)
    · refine lv_iconst (v := 0) hx hb d_X_connect_25 (by decide) ?_
      refine xk_sX (rest := []) (c_X_checkState_0 l hsl g B o lim σ) gd_X_X_checkState hd_X_checkState hC hW hX hS trivial (by omega) (by omega) (by omega) (by omega) hl.1 rfl (Nat.le_of_ble_eq_true rfl) d_X_connect_26 (fun ce9 q9 H locs hX hS e1 e2 e3 => ?_)
      exact xr_FX hC hxt hW hX hS (by omega) (by omega) e1 e2 e3 (k := 1) (v := 0) (by simp only [xp_connect, c_1, c_2, if_true, if_false, reduceIte, Bool.false_eq_true, Bool.true_eq_false, and_true, true_and, and_false, false_and, or_true, true_or, or_false, false_or, not_true_eq_false, not_false_eq_true] <;> rfl) rfl
    · refine lv_iconst (v := 1) hx hb d_X_connect_21 (by decide) ?_
      refine lv_goto (tgt := 26) hx hb d_X_connect_22 (by decide) ?_
      refine xk_sV (rest := []) (c_X_checkState_1 l g B o lim σ) gd_X_X_checkState hd_X_checkState hC hW hX hS trivial (by omega) (by omega) (by omega) (by omega) hl.1 rfl (Nat.le_of_ble_eq_true rfl) d_X_connect_26 (fun H locs hX hS hF => ?_)
      refine lv_aload_n hx hb d_X_connect_29 rfl (lv_at hl 0 rfl) ?_
      refine lv_iconst (v := 1) hx hb d_X_connect_30 (by decide) ?_
      refine pf_X_C_stage hx hb hts hown hK hX hS (xs_ixl (xm_in6t c_1)) d_X_connect_31 (fun H locs hX hS hF => ?_)
      refine lv_aload_n hx hb d_X_connect_34 rfl (lv_at hl 0 rfl) ?_
      refine gf_X_C_inbox hx hb hts hown hK (hX.2.2.2.2.2.1 (xs_ix x) (xs_ixl (xm_in6t c_1))) rfl d_X_connect_35 ?_
      obtain ⟨f9, hq9, hl9, hz9⟩ := hX.2.2.2.2.2.2.1 (8 + (xs_ix x)) (xs_8 (xs_ixl (xm_in6t c_1)))
      refine xk_iV (rest := []) (c_Q_clear l g B o lim (xm_sst σ (xs_ix x) 1) (8 + (xs_ix x)) (xs_8 (xs_ixl (xm_in6t c_1)))) gd_X_Q_clear hd_Q_clear hC hW hX hS (xb_recv hK (ci := xi_Q) rfl hq9.1) trivial (by omega) (by omega) (by omega) (by omega) hl.1 rfl (Nat.le_of_ble_eq_true rfl) d_X_connect_38 (fun H locs hX hS hF => ?_)
      refine lv_iconst (v := 1) hx hb d_X_connect_41 (by decide) ?_
      exact xr_F hC hW hX hS (by omega) (by omega) (by simp only [xp_connect, c_1, c_2, xs_cn_scn, xs_nx_scn, xs_up_scn, xs_lt_scn, xs_q_scn, xs_ac_scn, xs_mk_scn, xs_ac_sac, xs_sac_sac, xs_nx_sg, xs_up_sg, xs_lt_sg, xs_cn_sg, xs_q_sg, if_true, if_false, reduceIte, Bool.false_eq_true, Bool.true_eq_false, and_true, true_and, and_false, false_and, or_true, true_or, or_false, false_or, not_true_eq_false, not_false_eq_true] <;> rfl) d_X_connect_42
set_option maxHeartbeats 4000000 in
set_option maxRecDepth 100000 in
theorem c_X_login (l : Launch) (hsl : l.stackTraces = false) (g : xw_G) (B : Nat → Prop) (o lim : Nat) (σ : xs_S) (x : Int32) (y : Int32) : xc_F l y_X_login (Cond.code y_X_login b_X_login 4 (some .int)) g B o lim σ (xp_login σ x y) [.ref o, .int x, .int y] 7 109 2 12 := by
  refine xh_F (own := R_X) (by decide) rfl (Nat.le_of_ble_eq_true rfl) ?_
  intro p e R s m below meth c ls hRf hRl hRc hRs hxt hC hW hl
  obtain ⟨hx, hb, hml, hr, hown, hts, hlk⟩ := id hC
  have hX := hW.1
  have hK := hW.2.1
  have hS : va_S (xw_A o s.heap.size) s.heap s.heap [] := va_S.rf
  have hl : lv_has ls 4 [(0, .ref o), (1, .int x), (2, .int y)] := hl
  refine lv_iload_n hx hb d_X_login_0 rfl (lv_at hl 1 rfl) ?_
  refine xk_sQ (rest := []) (c_X_isConnection l g B o lim σ x) gd_X_X_isConnection hd_X_isConnection hC hW hX hS trivial (by omega) (by omega) (by omega) (by omega) hl.1 rfl (Nat.le_of_ble_eq_true rfl) d_X_login_1 (fun v8 H locs hv hX hS hF => ?_)
  obtain rfl := hv
  refine lv_if_eq (tgt := 18) hx hb d_X_login_4 (by decide) (fun c_1 => ?_) (fun c_1 => ?_)
  · have c_1 := xs_b0 c_1
    refine lv_iconst (v := 0) hx hb d_X_login_18 (by decide) ?_
    refine xk_sX (rest := []) (c_X_checkArgument_0 l hsl g B o lim σ) gd_X_X_checkArgument hd_X_checkArgument hC hW hX hS trivial (by omega) (by omega) (by omega) (by omega) hl.1 rfl (Nat.le_of_ble_eq_true rfl) d_X_login_19 (fun ce9 q9 H locs hX hS e1 e2 e3 => ?_)
    exact xr_FX hC hxt hW hX hS (by omega) (by omega) e1 e2 e3 (k := 0) (v := 0) (by simp only [xp_login, xp_login1, xm_sst, xm_sacc, xm_sch, c_1, if_true, if_false, reduceIte, Bool.false_eq_true, Bool.true_eq_false, and_true, true_and, and_false, false_and, or_true, true_or, or_false, false_or, not_true_eq_false, not_false_eq_true] <;> rfl) rfl
  · have c_1 := xs_b1 c_1
    refine lv_iload_n hx hb d_X_login_7 rfl (lv_at hl 2 rfl) ?_
    refine xk_sQ (rest := []) (c_X_isAccount l g B o lim σ y) gd_X_X_isAccount hd_X_isAccount hC hW hX hS trivial (by omega) (by omega) (by omega) (by omega) hl.1 rfl (Nat.le_of_ble_eq_true rfl) d_X_login_8 (fun v8 H locs hv hX hS hF => ?_)
    obtain rfl := hv
    refine lv_if_eq (tgt := 18) hx hb d_X_login_11 (by decide) (fun c_2 => ?_) (fun c_2 => ?_)
    · have c_2 := xs_b0 c_2
      refine lv_iconst (v := 0) hx hb d_X_login_18 (by decide) ?_
      refine xk_sX (rest := []) (c_X_checkArgument_0 l hsl g B o lim σ) gd_X_X_checkArgument hd_X_checkArgument hC hW hX hS trivial (by omega) (by omega) (by omega) (by omega) hl.1 rfl (Nat.le_of_ble_eq_true rfl) d_X_login_19 (fun ce9 q9 H locs hX hS e1 e2 e3 => ?_)
      exact xr_FX hC hxt hW hX hS (by omega) (by omega) e1 e2 e3 (k := 0) (v := 0) (by simp only [xp_login, xp_login1, xm_sst, xm_sacc, xm_sch, c_1, c_2, if_true, if_false, reduceIte, Bool.false_eq_true, Bool.true_eq_false, and_true, true_and, and_false, false_and, or_true, true_or, or_false, false_or, not_true_eq_false, not_false_eq_true] <;> rfl) rfl
    · have c_2 := xs_b1 c_2
      refine lv_iconst (v := 1) hx hb d_X_login_14 (by decide) ?_
      refine lv_goto (tgt := 19) hx hb d_X_login_15 (by decide) ?_
      refine xk_sV (rest := []) (c_X_checkArgument_1 l g B o lim σ) gd_X_X_checkArgument hd_X_checkArgument hC hW hX hS trivial (by omega) (by omega) (by omega) (by omega) hl.1 rfl (Nat.le_of_ble_eq_true rfl) d_X_login_19 (fun H locs hX hS hF => ?_)
      refine lv_aload_n hx hb d_X_login_22 rfl (lv_at hl 0 rfl) ?_
      obtain ⟨v9, hXo, hXl⟩ := hX.1
      refine gf_X_X_connections hx hb hts hown hK hXo rfl d_X_login_23 ?_
      refine lv_iload_n hx hb d_X_login_26 rfl (lv_at hl 1 rfl) ?_
      refine xb_aald (v := o + 36 + 3 * (xs_ix x)) hx hb hK 1 rfl hX.2.2.1 (xm_in6t c_1) rfl d_X_login_27 ?_
      refine lv_astore_n (lv' := [(3, .ref (o + 36 + 3 * (xs_ix x))), (0, .ref o), (1, .int x), (2, .int y)]) hx hb d_X_login_28 rfl hl (by decide) rfl (fun ls hl => ?_)
      refine lv_aload_n hx hb d_X_login_29 rfl (lv_at hl 0 rfl) ?_
      refine gf_X_C_stage hx hb hts hown hK (hX.2.2.2.2.2.1 (xs_ix x) (xs_ixl (xm_in6t c_1))) rfl d_X_login_30 ?_
      refine lv_iconst (v := 1) hx hb d_X_login_33 (by decide) ?_
      refine lv_icmp_ne (tgt := 41) hx hb d_X_login_34 (by decide) (fun c_3 => ?_) (fun c_3 => ?_)
      · refine lv_iconst (v := 0) hx hb d_X_login_41 (by decide) ?_
        refine xk_sX (rest := []) (c_X_checkState_0 l hsl g B o lim σ) gd_X_X_checkState hd_X_checkState hC hW hX hS trivial (by omega) (by omega) (by omega) (by omega) hl.1 rfl (Nat.le_of_ble_eq_true rfl) d_X_login_42 (fun ce9 q9 H locs hX hS e1 e2 e3 => ?_)
        exact xr_FX hC hxt hW hX hS (by omega) (by omega) e1 e2 e3 (k := 1) (v := 0) (by simp only [xp_login, xp_login1, xm_sst, xm_sacc, xm_sch, c_1, c_2, c_3, if_true, if_false, reduceIte, Bool.false_eq_true, Bool.true_eq_false, and_true, true_and, and_false, false_and, or_true, true_or, or_false, false_or, not_true_eq_false, not_false_eq_true] <;> rfl) rfl
      · refine lv_iconst (v := 1) hx hb d_X_login_37 (by decide) ?_
        refine lv_goto (tgt := 42) hx hb d_X_login_38 (by decide) ?_
        refine xk_sV (rest := []) (c_X_checkState_1 l g B o lim σ) gd_X_X_checkState hd_X_checkState hC hW hX hS trivial (by omega) (by omega) (by omega) (by omega) hl.1 rfl (Nat.le_of_ble_eq_true rfl) d_X_login_42 (fun H locs hX hS hF => ?_)
        refine lv_aload_n hx hb d_X_login_45 rfl (lv_at hl 0 rfl) ?_
        refine lv_iconst (v := 2) hx hb d_X_login_46 (by decide) ?_
        refine pf_X_C_stage hx hb hts hown hK hX hS (xs_ixl (xm_in6t c_1)) d_X_login_47 (fun H locs hX hS hF => ?_)
        refine lv_aload_n hx hb d_X_login_50 rfl (lv_at hl 0 rfl) ?_
        refine lv_iload_n hx hb d_X_login_51 rfl (lv_at hl 3 rfl) ?_
        refine pf_X_C_account hx hb hts hown hK hX hS (xs_ixl (xm_in6t c_1)) d_X_login_52 (fun H locs hX hS hF => ?_)
        refine lv_aload_n hx hb d_X_login_55 rfl (lv_at hl 0 rfl) ?_
        refine lv_aload_n hx hb d_X_login_56 rfl (lv_at hl 1 rfl) ?_
        obtain ⟨v9, hXo, hXl⟩ := hX.1
        refine gf_X_X_nextChallenge hx hb hts hown hK hXo rfl d_X_login_57 ?_
        refine pf_X_C_challenge hx hb hts hown hK hX hS (xs_ixl (xm_in6t c_1)) d_X_login_60 (fun H locs hX hS hF => ?_)
        refine lv_aload_n hx hb d_X_login_63 rfl (lv_at hl 1 rfl) ?_
        refine lv_aload_n hx hb d_X_login_64 rfl (lv_at hl 1 rfl) ?_
        obtain ⟨v9, hXo, hXl⟩ := hX.1
        refine gf_X_X_nextChallenge hx hb hts hown hK hXo rfl d_X_login_65 ?_
        refine lv_sipush (v := 7919) hx hb d_X_login_68 (by decide) ?_
        refine lv_iadd hx hb d_X_login_71 ?_
        refine lv_sipush (v := 10000) hx hb d_X_login_72 (by decide) ?_
        refine lv_irem hx hb d_X_login_75 (by decide) ?_
        refine pf_X_X_nextChallenge hx hb hts hown hK hX hS d_X_login_76 (fun H locs hX hS hF => ?_)
        refine lv_aload_n hx hb d_X_login_79 rfl (lv_at hl 0 rfl) ?_
        refine gf_X_C_challenge hx hb hts hown hK (hX.2.2.2.2.2.1 (xs_ix x) (xs_ixl (xm_in6t c_1))) rfl d_X_login_80 ?_
        exact xr_F hC hW hX hS (by omega) (by omega) (by simp only [xp_login, xp_login1, xm_sst, xm_sacc, xm_sch, c_1, c_2, c_3, xs_cn_scn, xs_nx_scn, xs_up_scn, xs_lt_scn, xs_q_scn, xs_ac_scn, xs_mk_scn, xs_ac_sac, xs_sac_sac, xs_nx_sg, xs_up_sg, xs_lt_sg, xs_cn_sg, xs_q_sg, if_true, if_false, reduceIte, Bool.false_eq_true, Bool.true_eq_false, and_true, true_and, and_false, false_and, or_true, true_or, or_false, false_or, not_true_eq_false, not_false_eq_true] <;> rfl) d_X_login_83
set_option maxHeartbeats 4000000 in
set_option maxRecDepth 100000 in
theorem c_X_prove (l : Launch) (hsl : l.stackTraces = false) (g : xw_G) (B : Nat → Prop) (o lim : Nat) (σ : xs_S) (x : Int32) (y : Int32) (hwf : xm_wf σ) : xc_F l y_X_prove (Cond.code y_X_prove b_X_prove 4 (some .int)) g B o lim σ (xp_prove σ x y) [.ref o, .int x, .int y] 7 109 3 18 := by
  refine xh_F (own := R_X) (by decide) rfl (Nat.le_of_ble_eq_true rfl) ?_
  intro p e R s m below meth c ls hRf hRl hRc hRs hxt hC hW hl
  obtain ⟨hx, hb, hml, hr, hown, hts, hlk⟩ := id hC
  have hX := hW.1
  have hK := hW.2.1
  have hS : va_S (xw_A o s.heap.size) s.heap s.heap [] := va_S.rf
  have hl : lv_has ls 4 [(0, .ref o), (1, .int x), (2, .int y)] := hl
  refine lv_iload_n hx hb d_X_prove_0 rfl (lv_at hl 1 rfl) ?_
  refine xk_sQ (rest := []) (c_X_isConnection l g B o lim σ x) gd_X_X_isConnection hd_X_isConnection hC hW hX hS trivial (by omega) (by omega) (by omega) (by omega) hl.1 rfl (Nat.le_of_ble_eq_true rfl) d_X_prove_1 (fun v8 H locs hv hX hS hF => ?_)
  obtain rfl := hv
  cases c_1 : (xm_in6 x) with
  | false =>
    refine xk_sX (rest := []) (c_X_checkArgument_0 l hsl g B o lim σ) gd_X_X_checkArgument hd_X_checkArgument hC hW hX hS trivial (by omega) (by omega) (by omega) (by omega) hl.1 rfl (Nat.le_of_ble_eq_true rfl) d_X_prove_4 (fun ce9 q9 H locs hX hS e1 e2 e3 => ?_)
    exact xr_FX hC hxt hW hX hS (by omega) (by omega) e1 e2 e3 (k := 0) (v := 0) (by simp only [xp_prove, c_1, if_true, if_false, reduceIte, Bool.false_eq_true, Bool.true_eq_false, and_true, true_and, and_false, false_and, or_true, true_or, or_false, false_or, not_true_eq_false, not_false_eq_true] <;> rfl) rfl
  | true =>
    refine xk_sV (rest := []) (c_X_checkArgument_1 l g B o lim σ) gd_X_X_checkArgument hd_X_checkArgument hC hW hX hS trivial (by omega) (by omega) (by omega) (by omega) hl.1 rfl (Nat.le_of_ble_eq_true rfl) d_X_prove_4 (fun H locs hX hS hF => ?_)
    refine lv_aload_n hx hb d_X_prove_7 rfl (lv_at hl 0 rfl) ?_
    obtain ⟨v9, hXo, hXl⟩ := hX.1
    refine gf_X_X_connections hx hb hts hown hK hXo rfl d_X_prove_8 ?_
    refine lv_iload_n hx hb d_X_prove_11 rfl (lv_at hl 1 rfl) ?_
    refine xb_aald (v := o + 36 + 3 * (xs_ix x)) hx hb hK 1 rfl hX.2.2.1 (xm_in6t c_1) rfl d_X_prove_12 ?_
    refine lv_astore_n (lv' := [(3, .ref (o + 36 + 3 * (xs_ix x))), (0, .ref o), (1, .int x), (2, .int y)]) hx hb d_X_prove_13 rfl hl (by decide) rfl (fun ls hl => ?_)
    refine lv_aload_n hx hb d_X_prove_14 rfl (lv_at hl 0 rfl) ?_
    refine gf_X_C_stage hx hb hts hown hK (hX.2.2.2.2.2.1 (xs_ix x) (xs_ixl (xm_in6t c_1))) rfl d_X_prove_15 ?_
    refine lv_iconst (v := 2) hx hb d_X_prove_18 (by decide) ?_
    refine lv_icmp_ne (tgt := 26) hx hb d_X_prove_19 (by decide) (fun c_2 => ?_) (fun c_2 => ?_)
    · refine lv_iconst (v := 0) hx hb d_X_prove_26 (by decide) ?_
      refine xk_sX (rest := []) (c_X_checkState_0 l hsl g B o lim σ) gd_X_X_checkState hd_X_checkState hC hW hX hS trivial (by omega) (by omega) (by omega) (by omega) hl.1 rfl (Nat.le_of_ble_eq_true rfl) d_X_prove_27 (fun ce9 q9 H locs hX hS e1 e2 e3 => ?_)
      exact xr_FX hC hxt hW hX hS (by omega) (by omega) e1 e2 e3 (k := 1) (v := 0) (by simp only [xp_prove, c_1, c_2, if_true, if_false, reduceIte, Bool.false_eq_true, Bool.true_eq_false, and_true, true_and, and_false, false_and, or_true, true_or, or_false, false_or, not_true_eq_false, not_false_eq_true] <;> rfl) rfl
    · refine lv_iconst (v := 1) hx hb d_X_prove_22 (by decide) ?_
      refine lv_goto (tgt := 27) hx hb d_X_prove_23 (by decide) ?_
      refine xk_sV (rest := []) (c_X_checkState_1 l g B o lim σ) gd_X_X_checkState hd_X_checkState hC hW hX hS trivial (by omega) (by omega) (by omega) (by omega) hl.1 rfl (Nat.le_of_ble_eq_true rfl) d_X_prove_27 (fun H locs hX hS hF => ?_)
      refine lv_aload_n hx hb d_X_prove_30 rfl (lv_at hl 1 rfl) ?_
      refine lv_aload_n hx hb d_X_prove_31 rfl (lv_at hl 0 rfl) ?_
      refine lv_iload_n hx hb d_X_prove_32 rfl (lv_at hl 3 rfl) ?_
      have hvac := hwf.2.1 _ (xs_ixl (xm_in6t c_1)) (Or.inl c_2)
      obtain ⟨v9, hXo, hXl⟩ := hX.1
      refine xk_iQ (rest := []) (c_X_isRightProof l g B o lim σ (xs_ix x) (xs_ixl (xm_in6t c_1)) y hvac) gd_X_X_isRightProof hd_X_isRightProof hC hW hX hS (xb_recv hK (ci := xi_X) rfl hXo) trivial (by omega) (by omega) (by omega) (by omega) hl.1 rfl (Nat.le_of_ble_eq_true rfl) d_X_prove_33 (fun v8 H locs hv hX hS hF => ?_)
      obtain rfl := hv
      refine lv_if_ne (tgt := 57) hx hb d_X_prove_36 (by decide) (fun c_3 => ?_) (fun c_3 => ?_)
      · have c_3 := xs_b1 c_3
        refine lv_aload_n hx hb d_X_prove_57 rfl (lv_at hl 0 rfl) ?_
        refine lv_iconst (v := 3) hx hb d_X_prove_58 (by decide) ?_
        refine pf_X_C_stage hx hb hts hown hK hX hS (xs_ixl (xm_in6t c_1)) d_X_prove_59 (fun H locs hX hS hF => ?_)
        refine lv_iconst (v := 1) hx hb d_X_prove_62 (by decide) ?_
        exact xr_F hC hW hX hS (by omega) (by omega) (by simp only [xp_prove, c_1, c_2, c_3, xs_cn_scn, xs_nx_scn, xs_up_scn, xs_lt_scn, xs_q_scn, xs_ac_scn, xs_mk_scn, xs_ac_sac, xs_sac_sac, xs_nx_sg, xs_up_sg, xs_lt_sg, xs_cn_sg, xs_q_sg, if_true, if_false, reduceIte, Bool.false_eq_true, Bool.true_eq_false, and_true, true_and, and_false, false_and, or_true, true_or, or_false, false_or, not_true_eq_false, not_false_eq_true] <;> rfl) d_X_prove_63
      · have c_3 := xs_b0 c_3
        refine lv_aload_n hx hb d_X_prove_39 rfl (lv_at hl 0 rfl) ?_
        refine lv_iconst (v := 1) hx hb d_X_prove_40 (by decide) ?_
        refine pf_X_C_stage hx hb hts hown hK hX hS (xs_ixl (xm_in6t c_1)) d_X_prove_41 (fun H locs hX hS hF => ?_)
        refine lv_aload_n hx hb d_X_prove_44 rfl (lv_at hl 0 rfl) ?_
        refine lv_iconst (v := (-1)) hx hb d_X_prove_45 (by decide) ?_
        refine pf_X_C_account hx hb hts hown hK hX hS (xs_ixl (xm_in6t c_1)) d_X_prove_46 (fun H locs hX hS hF => ?_)
        exact xr_T hC hsl hxt hW hX hS hl.1 (k := 2) (v := 0) (by simp only [xp_prove, c_1, c_2, c_3, xs_cn_scn, xs_nx_scn, xs_up_scn, xs_lt_scn, xs_q_scn, xs_ac_scn, xs_mk_scn, xs_ac_sac, xs_sac_sac, xs_nx_sg, xs_up_sg, xs_lt_sg, xs_cn_sg, xs_q_sg, if_true, if_false, reduceIte, Bool.false_eq_true, Bool.true_eq_false, and_true, true_and, and_false, false_and, or_true, true_or, or_false, false_or, not_true_eq_false, not_false_eq_true] <;> rfl) rfl hkl_3 hii_3 hia_3 hat_3 d_X_prove_49 d_X_prove_52 d_X_prove_53 d_X_prove_56 (by omega) (by omega) (by omega) (by omega) (by omega) (by omega)
set_option maxHeartbeats 4000000 in
set_option maxRecDepth 100000 in
theorem c_X_bind (l : Launch) (hsl : l.stackTraces = false) (g : xw_G) (B : Nat → Prop) (o lim : Nat) (σ : xs_S) (x : Int32) (y : Int32) (hwf : xm_wf σ) : xc_F l y_X_bind (Cond.code y_X_bind b_X_bind 5 (some .int)) g B o lim σ (xp_bind σ x y) [.ref o, .int x, .int y] 8 178 18 108 := by
  refine xh_F (own := R_X) (by decide) rfl (Nat.le_of_ble_eq_true rfl) ?_
  intro p e R s m below meth c ls hRf hRl hRc hRs hxt hC hW hl
  obtain ⟨hx, hb, hml, hr, hown, hts, hlk⟩ := id hC
  have hX := hW.1
  have hK := hW.2.1
  have hS : va_S (xw_A o s.heap.size) s.heap s.heap [] := va_S.rf
  have hl : lv_has ls 5 [(0, .ref o), (1, .int x), (2, .int y)] := hl
  refine lv_iload_n hx hb d_X_bind_0 rfl (lv_at hl 1 rfl) ?_
  refine xk_sQ (rest := []) (c_X_isConnection l g B o lim σ x) gd_X_X_isConnection hd_X_isConnection hC hW hX hS trivial (by omega) (by omega) (by omega) (by omega) hl.1 rfl (Nat.le_of_ble_eq_true rfl) d_X_bind_1 (fun v8 H locs hv hX hS hF => ?_)
  obtain rfl := hv
  refine lv_if_eq (tgt := 20) hx hb d_X_bind_4 (by decide) (fun c_1 => ?_) (fun c_1 => ?_)
  · have c_1 := xs_b0 c_1
    refine lv_iconst (v := 0) hx hb d_X_bind_20 (by decide) ?_
    refine xk_sX (rest := []) (c_X_checkArgument_0 l hsl g B o lim σ) gd_X_X_checkArgument hd_X_checkArgument hC hW hX hS trivial (by omega) (by omega) (by omega) (by omega) hl.1 rfl (Nat.le_of_ble_eq_true rfl) d_X_bind_21 (fun ce9 q9 H locs hX hS e1 e2 e3 => ?_)
    exact xr_FX hC hxt hW hX hS (by omega) (by omega) e1 e2 e3 (k := 0) (v := 0) (by simp only [xp_bind, xp_bind1, c_1, if_true, if_false, reduceIte, Bool.false_eq_true, Bool.true_eq_false, and_true, true_and, and_false, false_and, or_true, true_or, or_false, false_or, not_true_eq_false, not_false_eq_true] <;> rfl) rfl
  · have c_1 := xs_b1 c_1
    refine lv_iload_n hx hb d_X_bind_7 rfl (lv_at hl 2 rfl) ?_
    refine lv_if_lt (tgt := 20) hx hb d_X_bind_8 (by decide) (fun c_2 => ?_) (fun c_2 => ?_)
    · refine lv_iconst (v := 0) hx hb d_X_bind_20 (by decide) ?_
      refine xk_sX (rest := []) (c_X_checkArgument_0 l hsl g B o lim σ) gd_X_X_checkArgument hd_X_checkArgument hC hW hX hS trivial (by omega) (by omega) (by omega) (by omega) hl.1 rfl (Nat.le_of_ble_eq_true rfl) d_X_bind_21 (fun ce9 q9 H locs hX hS e1 e2 e3 => ?_)
      exact xr_FX hC hxt hW hX hS (by omega) (by omega) e1 e2 e3 (k := 0) (v := 0) (by simp only [xp_bind, xp_bind1, c_1, c_2, if_true, if_false, reduceIte, Bool.false_eq_true, Bool.true_eq_false, and_true, true_and, and_false, false_and, or_true, true_or, or_false, false_or, not_true_eq_false, not_false_eq_true] <;> rfl) rfl
    · refine lv_iload_n hx hb d_X_bind_11 rfl (lv_at hl 2 rfl) ?_
      refine lv_iconst (v := 3) hx hb d_X_bind_12 (by decide) ?_
      refine lv_icmp_ge (tgt := 20) hx hb d_X_bind_13 (by decide) (fun c_3 => ?_) (fun c_3 => ?_)
      · refine lv_iconst (v := 0) hx hb d_X_bind_20 (by decide) ?_
        refine xk_sX (rest := []) (c_X_checkArgument_0 l hsl g B o lim σ) gd_X_X_checkArgument hd_X_checkArgument hC hW hX hS trivial (by omega) (by omega) (by omega) (by omega) hl.1 rfl (Nat.le_of_ble_eq_true rfl) d_X_bind_21 (fun ce9 q9 H locs hX hS e1 e2 e3 => ?_)
        exact xr_FX hC hxt hW hX hS (by omega) (by omega) e1 e2 e3 (k := 0) (v := 0) (by simp only [xp_bind, xp_bind1, c_1, c_2, c_3, if_true, if_false, reduceIte, Bool.false_eq_true, Bool.true_eq_false, and_true, true_and, and_false, false_and, or_true, true_or, or_false, false_or, not_true_eq_false, not_false_eq_true] <;> rfl) rfl
      · refine lv_iconst (v := 1) hx hb d_X_bind_16 (by decide) ?_
        refine lv_goto (tgt := 21) hx hb d_X_bind_17 (by decide) ?_
        refine xk_sV (rest := []) (c_X_checkArgument_1 l g B o lim σ) gd_X_X_checkArgument hd_X_checkArgument hC hW hX hS trivial (by omega) (by omega) (by omega) (by omega) hl.1 rfl (Nat.le_of_ble_eq_true rfl) d_X_bind_21 (fun H locs hX hS hF => ?_)
        refine lv_aload_n hx hb d_X_bind_24 rfl (lv_at hl 0 rfl) ?_
        obtain ⟨v9, hXo, hXl⟩ := hX.1
        refine gf_X_X_connections hx hb hts hown hK hXo rfl d_X_bind_25 ?_
        refine lv_iload_n hx hb d_X_bind_28 rfl (lv_at hl 1 rfl) ?_
        refine xb_aald (v := o + 36 + 3 * (xs_ix x)) hx hb hK 1 rfl hX.2.2.1 (xm_in6t c_1) rfl d_X_bind_29 ?_
        refine lv_astore_n (lv' := [(3, .ref (o + 36 + 3 * (xs_ix x))), (0, .ref o), (1, .int x), (2, .int y)]) hx hb d_X_bind_30 rfl hl (by decide) rfl (fun ls hl => ?_)
        refine lv_aload_n hx hb d_X_bind_31 rfl (lv_at hl 0 rfl) ?_
        refine gf_X_C_stage hx hb hts hown hK (hX.2.2.2.2.2.1 (xs_ix x) (xs_ixl (xm_in6t c_1))) rfl d_X_bind_32 ?_
        refine lv_iconst (v := 3) hx hb d_X_bind_35 (by decide) ?_
        refine lv_icmp_ne (tgt := 43) hx hb d_X_bind_36 (by decide) (fun c_4 => ?_) (fun c_4 => ?_)
        · refine lv_iconst (v := 0) hx hb d_X_bind_43 (by decide) ?_
          refine xk_sX (rest := []) (c_X_checkState_0 l hsl g B o lim σ) gd_X_X_checkState hd_X_checkState hC hW hX hS trivial (by omega) (by omega) (by omega) (by omega) hl.1 rfl (Nat.le_of_ble_eq_true rfl) d_X_bind_44 (fun ce9 q9 H locs hX hS e1 e2 e3 => ?_)
          exact xr_FX hC hxt hW hX hS (by omega) (by omega) e1 e2 e3 (k := 1) (v := 0) (by simp only [xp_bind, xp_bind1, c_1, c_2, c_3, c_4, if_true, if_false, reduceIte, Bool.false_eq_true, Bool.true_eq_false, and_true, true_and, and_false, false_and, or_true, true_or, or_false, false_or, not_true_eq_false, not_false_eq_true] <;> rfl) rfl
        · refine lv_iconst (v := 1) hx hb d_X_bind_39 (by decide) ?_
          refine lv_goto (tgt := 44) hx hb d_X_bind_40 (by decide) ?_
          refine xk_sV (rest := []) (c_X_checkState_1 l g B o lim σ) gd_X_X_checkState hd_X_checkState hC hW hX hS trivial (by omega) (by omega) (by omega) (by omega) hl.1 rfl (Nat.le_of_ble_eq_true rfl) d_X_bind_44 (fun H locs hX hS hF => ?_)
          refine lv_aload_n hx hb d_X_bind_47 rfl (lv_at hl 1 rfl) ?_
          refine lv_aload_n hx hb d_X_bind_48 rfl (lv_at hl 0 rfl) ?_
          refine gf_X_C_account hx hb hts hown hK (hX.2.2.2.2.2.1 (xs_ix x) (xs_ixl (xm_in6t c_1))) rfl d_X_bind_49 ?_
          refine lv_iload_n hx hb d_X_bind_52 rfl (lv_at hl 3 rfl) ?_
          obtain ⟨v9, hXo, hXl⟩ := hX.1
          refine xk_iQ (rest := []) (c_X_boundWith l g B o lim σ ((xs_cn σ (xs_ix x)).2.1) y) gd_X_X_boundWith hd_X_boundWith hC hW hX hS (xb_recv hK (ci := xi_X) rfl hXo) trivial (by omega) (by omega) (by omega) (by omega) hl.1 rfl (Nat.le_of_ble_eq_true rfl) d_X_bind_53 (fun v8 H locs hv hX hS hF => ?_)
          cases hbw : xm_bw 6 0 σ ((xs_cn σ (xs_ix x)).2.1) y with
          | none =>
            rw [hbw] at hv
            obtain rfl : v8 = .null := hv
            refine lv_astoreN (lv' := [(4, .null), (3, .ref (o + 36 + 3 * (xs_ix x))), (0, .ref o), (1, .int x), (2, .int y)]) hx hb d_X_bind_56 hl (by decide) rfl (fun ls hl => ?_)
            refine lv_aloadN hx hb d_X_bind_58 (lv_at hl 0 rfl) ?_
            refine lv_ifnullN (tgt := 69) hx hb d_X_bind_60 (by decide) ?_
            refine lv_aload_n hx hb d_X_bind_69 rfl (lv_at hl 1 rfl) ?_
            refine lv_iconst (v := 4) hx hb d_X_bind_70 (by decide) ?_
            refine pf_X_C_stage hx hb hts hown hK hX hS (xs_ixl (xm_in6t c_1)) d_X_bind_71 (fun H locs hX hS hF => ?_)
            refine lv_aload_n hx hb d_X_bind_74 rfl (lv_at hl 1 rfl) ?_
            refine lv_iload_n hx hb d_X_bind_75 rfl (lv_at hl 4 rfl) ?_
            refine pf_X_C_resource hx hb hts hown hK hX hS (xs_ixl (xm_in6t c_1)) d_X_bind_76 (fun H locs hX hS hF => ?_)
            refine lv_aloadN hx hb d_X_bind_79 (lv_at hl 0 rfl) ?_
            refine lv_ifnullN (tgt := 88) hx hb d_X_bind_81 (by decide) ?_
            refine lv_iconst (v := 0) hx hb d_X_bind_88 (by decide) ?_
            exact xr_F hC hW hX hS (by omega) (by omega) (by simp only [xp_bind, xp_bind1, c_1, c_2, c_3, c_4, hbw, xs_cn_scn, xs_nx_scn, xs_up_scn, xs_lt_scn, xs_q_scn, xs_ac_scn, xs_mk_scn, xs_ac_sac, xs_sac_sac, xs_nx_sg, xs_up_sg, xs_lt_sg, xs_cn_sg, xs_q_sg, if_true, if_false, reduceIte, Bool.false_eq_true, Bool.true_eq_false, and_true, true_and, and_false, false_and, or_true, true_or, or_false, false_or, not_true_eq_false, not_false_eq_true] <;> rfl) d_X_bind_89
          | some ib =>
            rw [hbw] at hv
            obtain ⟨rfl, hib⟩ : v8 = .ref (o + 36 + 3 * ib) ∧ ib < 6 := hv
            refine lv_astore (lv' := [(4, .ref (o + 36 + 3 * ib)), (3, .ref (o + 36 + 3 * (xs_ix x))), (0, .ref o), (1, .int x), (2, .int y)]) hx hb d_X_bind_56 hl (by decide) rfl (fun ls hl => ?_)
            refine lv_aload hx hb d_X_bind_58 (lv_at hl 0 rfl) ?_
            refine lv_ifnull hx hb d_X_bind_60 ?_
            refine lv_aload_n hx hb d_X_bind_63 rfl (lv_at hl 2 rfl) ?_
            refine lv_aload hx hb d_X_bind_64 (lv_at hl 0 rfl) ?_
            obtain ⟨v9, hXo, hXl⟩ := hX.1
            refine xk_iV (rest := []) (c_X_shut l g B o lim σ ib hib (fun h => hwf.2.1 ib hib (Or.inr (Or.inr (hwf.1 ib hib h))))) gd_X_X_shut hd_X_shut hC hW hX hS (xb_recv hK (ci := xi_X) rfl hXo) trivial (by omega) (by omega) (by omega) (by omega) hl.1 rfl (Nat.le_of_ble_eq_true rfl) d_X_bind_66 (fun H locs hX hS hF => ?_)
            refine lv_aload_n hx hb d_X_bind_69 rfl (lv_at hl 1 rfl) ?_
            refine lv_iconst (v := 4) hx hb d_X_bind_70 (by decide) ?_
            refine pf_X_C_stage hx hb hts hown hK hX hS (xs_ixl (xm_in6t c_1)) d_X_bind_71 (fun H locs hX hS hF => ?_)
            refine lv_aload_n hx hb d_X_bind_74 rfl (lv_at hl 1 rfl) ?_
            refine lv_iload_n hx hb d_X_bind_75 rfl (lv_at hl 4 rfl) ?_
            refine pf_X_C_resource hx hb hts hown hK hX hS (xs_ixl (xm_in6t c_1)) d_X_bind_76 (fun H locs hX hS hF => ?_)
            refine lv_aload hx hb d_X_bind_79 (lv_at hl 0 rfl) ?_
            refine lv_ifnull hx hb d_X_bind_81 ?_
            refine lv_iconst (v := 1) hx hb d_X_bind_84 (by decide) ?_
            refine lv_goto (tgt := 89) hx hb d_X_bind_85 (by decide) ?_
            exact xr_F hC hW hX hS (by omega) (by omega) (by simp only [xp_bind, xp_bind1, c_1, c_2, c_3, c_4, hbw, xs_cn_scn, xs_nx_scn, xs_up_scn, xs_lt_scn, xs_q_scn, xs_ac_scn, xs_mk_scn, xs_ac_sac, xs_sac_sac, xs_nx_sg, xs_up_sg, xs_lt_sg, xs_cn_sg, xs_q_sg, if_true, if_false, reduceIte, Bool.false_eq_true, Bool.true_eq_false, and_true, true_and, and_false, false_and, or_true, true_or, or_false, false_or, not_true_eq_false, not_false_eq_true] <;> rfl) d_X_bind_89
set_option maxHeartbeats 4000000 in
set_option maxRecDepth 100000 in
theorem c_X_here (l : Launch) (hsl : l.stackTraces = false) (g : xw_G) (B : Nat → Prop) (o lim : Nat) (σ : xs_S) (x : Int32) (y : Int32) (hwf : xm_wf σ) : xc_F l y_X_here (Cond.code y_X_here b_X_here 5 (some .int)) g B o lim σ (xp_here σ x y) [.ref o, .int x, .int y] 7 157 66 396 := by
  refine xh_F (own := R_X) (by decide) rfl (Nat.le_of_ble_eq_true rfl) ?_
  intro p e R s m below meth c ls hRf hRl hRc hRs hxt hC hW hl
  obtain ⟨hx, hb, hml, hr, hown, hts, hlk⟩ := id hC
  have hX := hW.1
  have hK := hW.2.1
  have hS : va_S (xw_A o s.heap.size) s.heap s.heap [] := va_S.rf
  have hl : lv_has ls 5 [(0, .ref o), (1, .int x), (2, .int y)] := hl
  refine lv_iload_n hx hb d_X_here_0 rfl (lv_at hl 1 rfl) ?_
  refine xk_sQ (rest := []) (c_X_isConnection l g B o lim σ x) gd_X_X_isConnection hd_X_isConnection hC hW hX hS trivial (by omega) (by omega) (by omega) (by omega) hl.1 rfl (Nat.le_of_ble_eq_true rfl) d_X_here_1 (fun v8 H locs hv hX hS hF => ?_)
  obtain rfl := hv
  refine lv_if_eq (tgt := 22) hx hb d_X_here_4 (by decide) (fun c_1 => ?_) (fun c_1 => ?_)
  · have c_1 := xs_b0 c_1
    refine lv_iconst (v := 0) hx hb d_X_here_22 (by decide) ?_
    refine xk_sX (rest := []) (c_X_checkArgument_0 l hsl g B o lim σ) gd_X_X_checkArgument hd_X_checkArgument hC hW hX hS trivial (by omega) (by omega) (by omega) (by omega) hl.1 rfl (Nat.le_of_ble_eq_true rfl) d_X_here_23 (fun ce9 q9 H locs hX hS e1 e2 e3 => ?_)
    exact xr_FX hC hxt hW hX hS (by omega) (by omega) e1 e2 e3 (k := 0) (v := 0) (by simp only [xp_here, xp_here1, xp_here2, xp_here3, xs_cn_stw, xs_cn_so, xm_spr_ac, xm_sav_ac, c_1, if_true, if_false, reduceIte, Bool.false_eq_true, Bool.true_eq_false, and_true, true_and, and_false, false_and, or_true, true_or, or_false, false_or, not_true_eq_false, not_false_eq_true] <;> rfl) rfl
  · have c_1 := xs_b1 c_1
    refine lv_iload_n hx hb d_X_here_7 rfl (lv_at hl 2 rfl) ?_
    refine lv_bipush (v := (-3)) hx hb d_X_here_8 (by decide) ?_
    refine lv_icmp_lt (tgt := 22) hx hb d_X_here_10 (by decide) (fun c_2 => ?_) (fun c_2 => ?_)
    · refine lv_iconst (v := 0) hx hb d_X_here_22 (by decide) ?_
      refine xk_sX (rest := []) (c_X_checkArgument_0 l hsl g B o lim σ) gd_X_X_checkArgument hd_X_checkArgument hC hW hX hS trivial (by omega) (by omega) (by omega) (by omega) hl.1 rfl (Nat.le_of_ble_eq_true rfl) d_X_here_23 (fun ce9 q9 H locs hX hS e1 e2 e3 => ?_)
      exact xr_FX hC hxt hW hX hS (by omega) (by omega) e1 e2 e3 (k := 0) (v := 0) (by simp only [xp_here, xp_here1, xp_here2, xp_here3, xs_cn_stw, xs_cn_so, xm_spr_ac, xm_sav_ac, c_1, c_2, if_true, if_false, reduceIte, Bool.false_eq_true, Bool.true_eq_false, and_true, true_and, and_false, false_and, or_true, true_or, or_false, false_or, not_true_eq_false, not_false_eq_true] <;> rfl) rfl
    · refine lv_iload_n hx hb d_X_here_13 rfl (lv_at hl 2 rfl) ?_
      refine lv_iconst (v := 3) hx hb d_X_here_14 (by decide) ?_
      refine lv_icmp_gt (tgt := 22) hx hb d_X_here_15 (by decide) (fun c_3 => ?_) (fun c_3 => ?_)
      · refine lv_iconst (v := 0) hx hb d_X_here_22 (by decide) ?_
        refine xk_sX (rest := []) (c_X_checkArgument_0 l hsl g B o lim σ) gd_X_X_checkArgument hd_X_checkArgument hC hW hX hS trivial (by omega) (by omega) (by omega) (by omega) hl.1 rfl (Nat.le_of_ble_eq_true rfl) d_X_here_23 (fun ce9 q9 H locs hX hS e1 e2 e3 => ?_)
        exact xr_FX hC hxt hW hX hS (by omega) (by omega) e1 e2 e3 (k := 0) (v := 0) (by simp only [xp_here, xp_here1, xp_here2, xp_here3, xs_cn_stw, xs_cn_so, xm_spr_ac, xm_sav_ac, c_1, c_2, c_3, if_true, if_false, reduceIte, Bool.false_eq_true, Bool.true_eq_false, and_true, true_and, and_false, false_and, or_true, true_or, or_false, false_or, not_true_eq_false, not_false_eq_true] <;> rfl) rfl
      · refine lv_iconst (v := 1) hx hb d_X_here_18 (by decide) ?_
        refine lv_goto (tgt := 23) hx hb d_X_here_19 (by decide) ?_
        refine xk_sV (rest := []) (c_X_checkArgument_1 l g B o lim σ) gd_X_X_checkArgument hd_X_checkArgument hC hW hX hS trivial (by omega) (by omega) (by omega) (by omega) hl.1 rfl (Nat.le_of_ble_eq_true rfl) d_X_here_23 (fun H locs hX hS hF => ?_)
        refine lv_aload_n hx hb d_X_here_26 rfl (lv_at hl 0 rfl) ?_
        obtain ⟨v9, hXo, hXl⟩ := hX.1
        refine gf_X_X_connections hx hb hts hown hK hXo rfl d_X_here_27 ?_
        refine lv_iload_n hx hb d_X_here_30 rfl (lv_at hl 1 rfl) ?_
        refine xb_aald (v := o + 36 + 3 * (xs_ix x)) hx hb hK 1 rfl hX.2.2.1 (xm_in6t c_1) rfl d_X_here_31 ?_
        refine lv_astore_n (lv' := [(3, .ref (o + 36 + 3 * (xs_ix x))), (0, .ref o), (1, .int x), (2, .int y)]) hx hb d_X_here_32 rfl hl (by decide) rfl (fun ls hl => ?_)
        refine lv_aload_n hx hb d_X_here_33 rfl (lv_at hl 0 rfl) ?_
        refine gf_X_C_stage hx hb hts hown hK (hX.2.2.2.2.2.1 (xs_ix x) (xs_ixl (xm_in6t c_1))) rfl d_X_here_34 ?_
        refine lv_iconst (v := 4) hx hb d_X_here_37 (by decide) ?_
        refine lv_icmp_ne (tgt := 45) hx hb d_X_here_38 (by decide) (fun c_4 => ?_) (fun c_4 => ?_)
        · refine lv_iconst (v := 0) hx hb d_X_here_45 (by decide) ?_
          refine xk_sX (rest := []) (c_X_checkState_0 l hsl g B o lim σ) gd_X_X_checkState hd_X_checkState hC hW hX hS trivial (by omega) (by omega) (by omega) (by omega) hl.1 rfl (Nat.le_of_ble_eq_true rfl) d_X_here_46 (fun ce9 q9 H locs hX hS e1 e2 e3 => ?_)
          exact xr_FX hC hxt hW hX hS (by omega) (by omega) e1 e2 e3 (k := 1) (v := 0) (by simp only [xp_here, xp_here1, xp_here2, xp_here3, xs_cn_stw, xs_cn_so, xm_spr_ac, xm_sav_ac, c_1, c_2, c_3, c_4, if_true, if_false, reduceIte, Bool.false_eq_true, Bool.true_eq_false, and_true, true_and, and_false, false_and, or_true, true_or, or_false, false_or, not_true_eq_false, not_false_eq_true] <;> rfl) rfl
        · refine lv_iconst (v := 1) hx hb d_X_here_41 (by decide) ?_
          refine lv_goto (tgt := 46) hx hb d_X_here_42 (by decide) ?_
          refine xk_sV (rest := []) (c_X_checkState_1 l g B o lim σ) gd_X_X_checkState hd_X_checkState hC hW hX hS trivial (by omega) (by omega) (by omega) (by omega) hl.1 rfl (Nat.le_of_ble_eq_true rfl) d_X_here_46 (fun H locs hX hS hF => ?_)
          have hvac := hwf.2.1 _ (xs_ixl (xm_in6t c_1)) (Or.inr (Or.inr c_4))
          refine lv_aload_n hx hb d_X_here_49 rfl (lv_at hl 0 rfl) ?_
          refine gf_X_C_available hx hb hts hown hK (hX.2.2.2.2.2.1 (xs_ix x) (xs_ixl (xm_in6t c_1))) rfl d_X_here_50 ?_
          refine lv_istore (lv' := [(4, .int (xs_b (xs_cn σ (xs_ix x)).2.2.2.2.2)), (3, .ref (o + 36 + 3 * (xs_ix x))), (0, .ref o), (1, .int x), (2, .int y)]) hx hb d_X_here_53 hl (by decide) rfl (fun ls hl => ?_)
          refine lv_aload_n hx hb d_X_here_55 rfl (lv_at hl 1 rfl) ?_
          refine lv_iconst (v := 1) hx hb d_X_here_56 (by decide) ?_
          refine pf_X_C_available (b := true) hx hb hts hown hK hX hS (xs_ixl (xm_in6t c_1)) d_X_here_57 (fun H locs hX hS hF => ?_)
          refine lv_aload_n hx hb d_X_here_60 rfl (lv_at hl 1 rfl) ?_
          refine lv_iload_n hx hb d_X_here_61 rfl (lv_at hl 4 rfl) ?_
          refine pf_X_C_priority hx hb hts hown hK hX hS (xs_ixl (xm_in6t c_1)) d_X_here_62 (fun H locs hX hS hF => ?_)
          refine lv_aload_n hx hb d_X_here_65 rfl (lv_at hl 2 rfl) ?_
          refine lv_aload_n hx hb d_X_here_66 rfl (lv_at hl 1 rfl) ?_
          refine lv_iconst (v := 2) hx hb d_X_here_67 (by decide) ?_
          obtain ⟨v9, hXo, hXl⟩ := hX.1
          refine xk_iV (rest := []) (c_X_sendToWatchers l g B o lim (xm_spr (xm_sav σ (xs_ix x) true) (xs_ix x) y) (xs_ix x) (xs_ixl (xm_in6t c_1)) 2 (by simp only [xs_cn_stw, xs_cn_so, xm_spr_ac, xm_sav_ac]; exact hvac)) gd_X_X_sendToWatchers hd_X_sendToWatchers hC hW hX hS (xb_recv hK (ci := xi_X) rfl hXo) trivial (by omega) (by omega) (by omega) (by omega) hl.1 rfl (Nat.le_of_ble_eq_true rfl) d_X_here_68 (fun H locs hX hS hF => ?_)
          refine lv_iload hx hb d_X_here_71 (lv_at hl 0 rfl) ?_
          refine lv_if_ne (tgt := 90) hx hb d_X_here_73 (by decide) (fun c_5 => ?_) (fun c_5 => ?_)
          · have c_5 := xs_b1 c_5
            refine lv_aload_n hx hb d_X_here_90 rfl (lv_at hl 1 rfl) ?_
            refine gf_X_C_inbox hx hb hts hown hK (hX.2.2.2.2.2.1 (xs_ix x) (xs_ixl (xm_in6t c_1))) rfl d_X_here_91 ?_
            obtain ⟨f9, hq9, hl9, hz9⟩ := hX.2.2.2.2.2.2.1 (8 + (xs_ix x)) (xs_8 (xs_ixl (xm_in6t c_1)))
            refine gf_X_Q_size hx hb hts hown hK hq9.1 rfl d_X_here_94 ?_
            exact xr_F hC hW hX hS (by omega) (by omega) (by simp only [xp_here, xp_here1, xp_here2, xp_here3, xs_cn_stw, xs_cn_so, xm_spr_ac, xm_sav_ac, c_1, c_2, c_3, c_4, c_5, xs_cn_scn, xs_nx_scn, xs_up_scn, xs_lt_scn, xs_q_scn, xs_ac_scn, xs_mk_scn, xs_ac_sac, xs_sac_sac, xs_nx_sg, xs_up_sg, xs_lt_sg, xs_cn_sg, xs_q_sg, if_true, if_false, reduceIte, Bool.false_eq_true, Bool.true_eq_false, and_true, true_and, and_false, false_and, or_true, true_or, or_false, false_or, not_true_eq_false, not_false_eq_true] <;> rfl) d_X_here_97
          · have c_5 := xs_b0 c_5
            refine lv_aload_n hx hb d_X_here_76 rfl (lv_at hl 2 rfl) ?_
            refine lv_aload_n hx hb d_X_here_77 rfl (lv_at hl 1 rfl) ?_
            obtain ⟨v9, hXo, hXl⟩ := hX.1
            refine xk_iV (rest := []) (c_X_showOthers l g B o lim (xm_stw 8 0 (xm_spr (xm_sav σ (xs_ix x) true) (xs_ix x) y) (xs_ix (xs_cn (xm_spr (xm_sav σ (xs_ix x) true) (xs_ix x) y) (xs_ix x)).2.1) (xs_ix x) 2) (xs_ix x) (xs_ixl (xm_in6t c_1)) (by simp only [xs_cn_stw, xs_cn_so, xm_spr_ac, xm_sav_ac]; exact hvac)) gd_X_X_showOthers hd_X_showOthers hC hW hX hS (xb_recv hK (ci := xi_X) rfl hXo) trivial (by omega) (by omega) (by omega) (by omega) hl.1 rfl (Nat.le_of_ble_eq_true rfl) d_X_here_78 (fun H locs hX hS hF => ?_)
            refine lv_iload_n hx hb d_X_here_81 rfl (lv_at hl 4 rfl) ?_
            refine lv_if_lt (tgt := 90) hx hb d_X_here_82 (by decide) (fun c_6 => ?_) (fun c_6 => ?_)
            · refine lv_aload_n hx hb d_X_here_90 rfl (lv_at hl 1 rfl) ?_
              refine gf_X_C_inbox hx hb hts hown hK (hX.2.2.2.2.2.1 (xs_ix x) (xs_ixl (xm_in6t c_1))) rfl d_X_here_91 ?_
              obtain ⟨f9, hq9, hl9, hz9⟩ := hX.2.2.2.2.2.2.1 (8 + (xs_ix x)) (xs_8 (xs_ixl (xm_in6t c_1)))
              refine gf_X_Q_size hx hb hts hown hK hq9.1 rfl d_X_here_94 ?_
              exact xr_F hC hW hX hS (by omega) (by omega) (by simp only [xp_here, xp_here1, xp_here2, xp_here3, xs_cn_stw, xs_cn_so, xm_spr_ac, xm_sav_ac, c_1, c_2, c_3, c_4, c_5, c_6, xs_cn_scn, xs_nx_scn, xs_up_scn, xs_lt_scn, xs_q_scn, xs_ac_scn, xs_mk_scn, xs_ac_sac, xs_sac_sac, xs_nx_sg, xs_up_sg, xs_lt_sg, xs_cn_sg, xs_q_sg, if_true, if_false, reduceIte, Bool.false_eq_true, Bool.true_eq_false, and_true, true_and, and_false, false_and, or_true, true_or, or_false, false_or, not_true_eq_false, not_false_eq_true] <;> rfl) d_X_here_97
            · refine lv_aload_n hx hb d_X_here_85 rfl (lv_at hl 2 rfl) ?_
              refine lv_aload_n hx hb d_X_here_86 rfl (lv_at hl 1 rfl) ?_
              obtain ⟨v9, hXo, hXl⟩ := hX.1
              refine xk_iV (rest := []) (c_X_handOverKept l g B o lim (xm_so 8 0 (xm_stw 8 0 (xm_spr (xm_sav σ (xs_ix x) true) (xs_ix x) y) (xs_ix (xs_cn (xm_spr (xm_sav σ (xs_ix x) true) (xs_ix x) y) (xs_ix x)).2.1) (xs_ix x) 2) (xs_ix (xs_cn (xm_stw 8 0 (xm_spr (xm_sav σ (xs_ix x) true) (xs_ix x) y) (xs_ix (xs_cn (xm_spr (xm_sav σ (xs_ix x) true) (xs_ix x) y) (xs_ix x)).2.1) (xs_ix x) 2) (xs_ix x)).2.1) (xs_ix x)) (xs_ix x) (xs_ixl (xm_in6t c_1)) (by simp only [xs_cn_stw, xs_cn_so, xm_spr_ac, xm_sav_ac]; exact hvac)) gd_X_X_handOverKept hd_X_handOverKept hC hW hX hS (xb_recv hK (ci := xi_X) rfl hXo) trivial (by omega) (by omega) (by omega) (by omega) hl.1 rfl (Nat.le_of_ble_eq_true rfl) d_X_here_87 (fun H locs hX hS hF => ?_)
              refine lv_aload_n hx hb d_X_here_90 rfl (lv_at hl 1 rfl) ?_
              refine gf_X_C_inbox hx hb hts hown hK (hX.2.2.2.2.2.1 (xs_ix x) (xs_ixl (xm_in6t c_1))) rfl d_X_here_91 ?_
              obtain ⟨f9, hq9, hl9, hz9⟩ := hX.2.2.2.2.2.2.1 (8 + (xs_ix x)) (xs_8 (xs_ixl (xm_in6t c_1)))
              refine gf_X_Q_size hx hb hts hown hK hq9.1 rfl d_X_here_94 ?_
              exact xr_F hC hW hX hS (by omega) (by omega) (by simp only [xp_here, xp_here1, xp_here2, xp_here3, xs_cn_stw, xs_cn_so, xm_spr_ac, xm_sav_ac, c_1, c_2, c_3, c_4, c_5, c_6, xs_cn_scn, xs_nx_scn, xs_up_scn, xs_lt_scn, xs_q_scn, xs_ac_scn, xs_mk_scn, xs_ac_sac, xs_sac_sac, xs_nx_sg, xs_up_sg, xs_lt_sg, xs_cn_sg, xs_q_sg, if_true, if_false, reduceIte, Bool.false_eq_true, Bool.true_eq_false, and_true, true_and, and_false, false_and, or_true, true_or, or_false, false_or, not_true_eq_false, not_false_eq_true] <;> rfl) d_X_here_97
set_option maxHeartbeats 4000000 in
set_option maxRecDepth 100000 in
theorem c_X_gone (l : Launch) (hsl : l.stackTraces = false) (g : xw_G) (B : Nat → Prop) (o lim : Nat) (σ : xs_S) (x : Int32) (hwf : xm_wf σ) : xc_F l y_X_gone (Cond.code y_X_gone b_X_gone 3 (some .int)) g B o lim σ (xp_gone σ x) [.ref o, .int x] 7 157 18 108 := by
  refine xh_F (own := R_X) (by decide) rfl (Nat.le_of_ble_eq_true rfl) ?_
  intro p e R s m below meth c ls hRf hRl hRc hRs hxt hC hW hl
  obtain ⟨hx, hb, hml, hr, hown, hts, hlk⟩ := id hC
  have hX := hW.1
  have hK := hW.2.1
  have hS : va_S (xw_A o s.heap.size) s.heap s.heap [] := va_S.rf
  have hl : lv_has ls 3 [(0, .ref o), (1, .int x)] := hl
  refine lv_iload_n hx hb d_X_gone_0 rfl (lv_at hl 1 rfl) ?_
  refine xk_sQ (rest := []) (c_X_isConnection l g B o lim σ x) gd_X_X_isConnection hd_X_isConnection hC hW hX hS trivial (by omega) (by omega) (by omega) (by omega) hl.1 rfl (Nat.le_of_ble_eq_true rfl) d_X_gone_1 (fun v8 H locs hv hX hS hF => ?_)
  obtain rfl := hv
  cases c_1 : (xm_in6 x) with
  | false =>
    refine xk_sX (rest := []) (c_X_checkArgument_0 l hsl g B o lim σ) gd_X_X_checkArgument hd_X_checkArgument hC hW hX hS trivial (by omega) (by omega) (by omega) (by omega) hl.1 rfl (Nat.le_of_ble_eq_true rfl) d_X_gone_4 (fun ce9 q9 H locs hX hS e1 e2 e3 => ?_)
    exact xr_FX hC hxt hW hX hS (by omega) (by omega) e1 e2 e3 (k := 0) (v := 0) (by simp only [xp_gone, xm_sav_ac, c_1, if_true, if_false, reduceIte, Bool.false_eq_true, Bool.true_eq_false, and_true, true_and, and_false, false_and, or_true, true_or, or_false, false_or, not_true_eq_false, not_false_eq_true] <;> rfl) rfl
  | true =>
    refine xk_sV (rest := []) (c_X_checkArgument_1 l g B o lim σ) gd_X_X_checkArgument hd_X_checkArgument hC hW hX hS trivial (by omega) (by omega) (by omega) (by omega) hl.1 rfl (Nat.le_of_ble_eq_true rfl) d_X_gone_4 (fun H locs hX hS hF => ?_)
    refine lv_aload_n hx hb d_X_gone_7 rfl (lv_at hl 0 rfl) ?_
    obtain ⟨v9, hXo, hXl⟩ := hX.1
    refine gf_X_X_connections hx hb hts hown hK hXo rfl d_X_gone_8 ?_
    refine lv_iload_n hx hb d_X_gone_11 rfl (lv_at hl 1 rfl) ?_
    refine xb_aald (v := o + 36 + 3 * (xs_ix x)) hx hb hK 1 rfl hX.2.2.1 (xm_in6t c_1) rfl d_X_gone_12 ?_
    refine lv_astore_n (lv' := [(2, .ref (o + 36 + 3 * (xs_ix x))), (0, .ref o), (1, .int x)]) hx hb d_X_gone_13 rfl hl (by decide) rfl (fun ls hl => ?_)
    refine lv_aload_n hx hb d_X_gone_14 rfl (lv_at hl 0 rfl) ?_
    refine gf_X_C_available hx hb hts hown hK (hX.2.2.2.2.2.1 (xs_ix x) (xs_ixl (xm_in6t c_1))) rfl d_X_gone_15 ?_
    cases c_2 : (xs_cn σ (xs_ix x)).2.2.2.2.2 with
    | false =>
      refine xk_sX (rest := []) (c_X_checkState_0 l hsl g B o lim σ) gd_X_X_checkState hd_X_checkState hC hW hX hS trivial (by omega) (by omega) (by omega) (by omega) hl.1 rfl (Nat.le_of_ble_eq_true rfl) d_X_gone_18 (fun ce9 q9 H locs hX hS e1 e2 e3 => ?_)
      exact xr_FX hC hxt hW hX hS (by omega) (by omega) e1 e2 e3 (k := 1) (v := 0) (by simp only [xp_gone, xm_sav_ac, c_1, c_2, if_true, if_false, reduceIte, Bool.false_eq_true, Bool.true_eq_false, and_true, true_and, and_false, false_and, or_true, true_or, or_false, false_or, not_true_eq_false, not_false_eq_true] <;> rfl) rfl
    | true =>
      refine xk_sV (rest := []) (c_X_checkState_1 l g B o lim σ) gd_X_X_checkState hd_X_checkState hC hW hX hS trivial (by omega) (by omega) (by omega) (by omega) hl.1 rfl (Nat.le_of_ble_eq_true rfl) d_X_gone_18 (fun H locs hX hS hF => ?_)
      have hvac := hwf.2.1 _ (xs_ixl (xm_in6t c_1)) (Or.inr (Or.inr (hwf.1 _ (xs_ixl (xm_in6t c_1)) c_2)))
      refine lv_aload_n hx hb d_X_gone_21 rfl (lv_at hl 0 rfl) ?_
      refine lv_iconst (v := 0) hx hb d_X_gone_22 (by decide) ?_
      refine pf_X_C_available (b := false) hx hb hts hown hK hX hS (xs_ixl (xm_in6t c_1)) d_X_gone_23 (fun H locs hX hS hF => ?_)
      refine lv_aload_n hx hb d_X_gone_26 rfl (lv_at hl 1 rfl) ?_
      refine lv_aload_n hx hb d_X_gone_27 rfl (lv_at hl 0 rfl) ?_
      refine lv_iconst (v := 3) hx hb d_X_gone_28 (by decide) ?_
      obtain ⟨v9, hXo, hXl⟩ := hX.1
      refine xk_iV (rest := []) (c_X_sendToWatchers l g B o lim (xm_sav σ (xs_ix x) false) (xs_ix x) (xs_ixl (xm_in6t c_1)) 3 (by simp only [xs_cn_stw, xs_cn_so, xm_spr_ac, xm_sav_ac]; exact hvac)) gd_X_X_sendToWatchers hd_X_sendToWatchers hC hW hX hS (xb_recv hK (ci := xi_X) rfl hXo) trivial (by omega) (by omega) (by omega) (by omega) hl.1 rfl (Nat.le_of_ble_eq_true rfl) d_X_gone_29 (fun H locs hX hS hF => ?_)
      refine lv_iconst (v := 1) hx hb d_X_gone_32 (by decide) ?_
      exact xr_F hC hW hX hS (by omega) (by omega) (by simp only [xp_gone, xm_sav_ac, c_1, c_2, xs_cn_scn, xs_nx_scn, xs_up_scn, xs_lt_scn, xs_q_scn, xs_ac_scn, xs_mk_scn, xs_ac_sac, xs_sac_sac, xs_nx_sg, xs_up_sg, xs_lt_sg, xs_cn_sg, xs_q_sg, if_true, if_false, reduceIte, Bool.false_eq_true, Bool.true_eq_false, and_true, true_and, and_false, false_and, or_true, true_or, or_false, false_or, not_true_eq_false, not_false_eq_true] <;> rfl) d_X_gone_33
set_option maxHeartbeats 4000000 in
set_option maxRecDepth 100000 in
theorem c_X_close (l : Launch) (hsl : l.stackTraces = false) (g : xw_G) (B : Nat → Prop) (o lim : Nat) (σ : xs_S) (x : Int32) (hwf : xm_wf σ) : xc_F l y_X_close (Cond.code y_X_close b_X_close 4 (some .int)) g B o lim σ (xp_close σ x) [.ref o, .int x] 8 178 18 108 := by
  refine xh_F (own := R_X) (by decide) rfl (Nat.le_of_ble_eq_true rfl) ?_
  intro p e R s m below meth c ls hRf hRl hRc hRs hxt hC hW hl
  obtain ⟨hx, hb, hml, hr, hown, hts, hlk⟩ := id hC
  have hX := hW.1
  have hK := hW.2.1
  have hS : va_S (xw_A o s.heap.size) s.heap s.heap [] := va_S.rf
  have hl : lv_has ls 4 [(0, .ref o), (1, .int x)] := hl
  refine lv_iload_n hx hb d_X_close_0 rfl (lv_at hl 1 rfl) ?_
  refine xk_sQ (rest := []) (c_X_isConnection l g B o lim σ x) gd_X_X_isConnection hd_X_isConnection hC hW hX hS trivial (by omega) (by omega) (by omega) (by omega) hl.1 rfl (Nat.le_of_ble_eq_true rfl) d_X_close_1 (fun v8 H locs hv hX hS hF => ?_)
  obtain rfl := hv
  cases c_1 : (xm_in6 x) with
  | false =>
    refine xk_sX (rest := []) (c_X_checkArgument_0 l hsl g B o lim σ) gd_X_X_checkArgument hd_X_checkArgument hC hW hX hS trivial (by omega) (by omega) (by omega) (by omega) hl.1 rfl (Nat.le_of_ble_eq_true rfl) d_X_close_4 (fun ce9 q9 H locs hX hS e1 e2 e3 => ?_)
    exact xr_FX hC hxt hW hX hS (by omega) (by omega) e1 e2 e3 (k := 0) (v := 0) (by simp only [xp_close, c_1, if_true, if_false, reduceIte, Bool.false_eq_true, Bool.true_eq_false, and_true, true_and, and_false, false_and, or_true, true_or, or_false, false_or, not_true_eq_false, not_false_eq_true] <;> rfl) rfl
  | true =>
    refine xk_sV (rest := []) (c_X_checkArgument_1 l g B o lim σ) gd_X_X_checkArgument hd_X_checkArgument hC hW hX hS trivial (by omega) (by omega) (by omega) (by omega) hl.1 rfl (Nat.le_of_ble_eq_true rfl) d_X_close_4 (fun H locs hX hS hF => ?_)
    refine lv_aload_n hx hb d_X_close_7 rfl (lv_at hl 0 rfl) ?_
    obtain ⟨v9, hXo, hXl⟩ := hX.1
    refine gf_X_X_connections hx hb hts hown hK hXo rfl d_X_close_8 ?_
    refine lv_iload_n hx hb d_X_close_11 rfl (lv_at hl 1 rfl) ?_
    refine xb_aald (v := o + 36 + 3 * (xs_ix x)) hx hb hK 1 rfl hX.2.2.1 (xm_in6t c_1) rfl d_X_close_12 ?_
    refine lv_astore_n (lv' := [(2, .ref (o + 36 + 3 * (xs_ix x))), (0, .ref o), (1, .int x)]) hx hb d_X_close_13 rfl hl (by decide) rfl (fun ls hl => ?_)
    refine lv_aload_n hx hb d_X_close_14 rfl (lv_at hl 0 rfl) ?_
    refine gf_X_C_stage hx hb hts hown hK (hX.2.2.2.2.2.1 (xs_ix x) (xs_ixl (xm_in6t c_1))) rfl d_X_close_15 ?_
    refine lv_if_eq (tgt := 25) hx hb d_X_close_18 (by decide) (fun c_2 => ?_) (fun c_2 => ?_)
    · refine lv_iconst (v := 0) hx hb d_X_close_25 (by decide) ?_
      refine xk_sX (rest := []) (c_X_checkState_0 l hsl g B o lim σ) gd_X_X_checkState hd_X_checkState hC hW hX hS trivial (by omega) (by omega) (by omega) (by omega) hl.1 rfl (Nat.le_of_ble_eq_true rfl) d_X_close_26 (fun ce9 q9 H locs hX hS e1 e2 e3 => ?_)
      exact xr_FX hC hxt hW hX hS (by omega) (by omega) e1 e2 e3 (k := 1) (v := 0) (by simp only [xp_close, c_1, c_2, if_true, if_false, reduceIte, Bool.false_eq_true, Bool.true_eq_false, and_true, true_and, and_false, false_and, or_true, true_or, or_false, false_or, not_true_eq_false, not_false_eq_true] <;> rfl) rfl
    · refine lv_iconst (v := 1) hx hb d_X_close_21 (by decide) ?_
      refine lv_goto (tgt := 26) hx hb d_X_close_22 (by decide) ?_
      refine xk_sV (rest := []) (c_X_checkState_1 l g B o lim σ) gd_X_X_checkState hd_X_checkState hC hW hX hS trivial (by omega) (by omega) (by omega) (by omega) hl.1 rfl (Nat.le_of_ble_eq_true rfl) d_X_close_26 (fun H locs hX hS hF => ?_)
      refine lv_aload_n hx hb d_X_close_29 rfl (lv_at hl 0 rfl) ?_
      refine gf_X_C_stage hx hb hts hown hK (hX.2.2.2.2.2.1 (xs_ix x) (xs_ixl (xm_in6t c_1))) rfl d_X_close_30 ?_
      refine lv_istore_n (lv' := [(3, .int ((xs_cn σ (xs_ix x)).1)), (2, .ref (o + 36 + 3 * (xs_ix x))), (0, .ref o), (1, .int x)]) hx hb d_X_close_33 rfl hl (by decide) rfl (fun ls hl => ?_)
      refine lv_aload_n hx hb d_X_close_34 rfl (lv_at hl 2 rfl) ?_
      refine lv_aload_n hx hb d_X_close_35 rfl (lv_at hl 1 rfl) ?_
      obtain ⟨v9, hXo, hXl⟩ := hX.1
      refine xk_iV (rest := []) (c_X_shut l g B o lim σ (xs_ix x) (xs_ixl (xm_in6t c_1)) (fun h => hwf.2.1 _ (xs_ixl (xm_in6t c_1)) (Or.inr (Or.inr (hwf.1 _ (xs_ixl (xm_in6t c_1)) h))))) gd_X_X_shut hd_X_shut hC hW hX hS (xb_recv hK (ci := xi_X) rfl hXo) trivial (by omega) (by omega) (by omega) (by omega) hl.1 rfl (Nat.le_of_ble_eq_true rfl) d_X_close_36 (fun H locs hX hS hF => ?_)
      refine lv_iload_n hx hb d_X_close_39 rfl (lv_at hl 0 rfl) ?_
      exact xr_F hC hW hX hS (by omega) (by omega) (by simp only [xp_close, c_1, c_2, xs_cn_scn, xs_nx_scn, xs_up_scn, xs_lt_scn, xs_q_scn, xs_ac_scn, xs_mk_scn, xs_ac_sac, xs_sac_sac, xs_nx_sg, xs_up_sg, xs_lt_sg, xs_cn_sg, xs_q_sg, if_true, if_false, reduceIte, Bool.false_eq_true, Bool.true_eq_false, and_true, true_and, and_false, false_and, or_true, true_or, or_false, false_or, not_true_eq_false, not_false_eq_true] <;> rfl) d_X_close_40
set_option maxHeartbeats 4000000 in
set_option maxRecDepth 100000 in
theorem c_X_message (l : Launch) (hsl : l.stackTraces = false) (g : xw_G) (B : Nat → Prop) (o lim : Nat) (σ : xs_S) (x : Int32) (y : Int32) (z : Int32) (t : Int32) (hwf : xm_wf σ) : xc_F l y_X_message (Cond.code y_X_message b_X_message 6 (some .int)) g B o lim σ (xp_message σ x y z t) [.ref o, .int x, .int y, .int z, .int t] 7 133 4 24 := by
  refine xh_F (own := R_X) (by decide) rfl (Nat.le_of_ble_eq_true rfl) ?_
  intro p e R s m below meth c ls hRf hRl hRc hRs hxt hC hW hl
  obtain ⟨hx, hb, hml, hr, hown, hts, hlk⟩ := id hC
  have hX := hW.1
  have hK := hW.2.1
  have hS : va_S (xw_A o s.heap.size) s.heap s.heap [] := va_S.rf
  have hl : lv_has ls 6 [(0, .ref o), (1, .int x), (2, .int y), (3, .int z), (4, .int t)] := hl
  refine lv_iload_n hx hb d_X_message_0 rfl (lv_at hl 1 rfl) ?_
  refine xk_sQ (rest := []) (c_X_isConnection l g B o lim σ x) gd_X_X_isConnection hd_X_isConnection hC hW hX hS trivial (by omega) (by omega) (by omega) (by omega) hl.1 rfl (Nat.le_of_ble_eq_true rfl) d_X_message_1 (fun v8 H locs hv hX hS hF => ?_)
  obtain rfl := hv
  refine lv_if_eq (tgt := 28) hx hb d_X_message_4 (by decide) (fun c_1 => ?_) (fun c_1 => ?_)
  · have c_1 := xs_b0 c_1
    refine lv_iconst (v := 0) hx hb d_X_message_28 (by decide) ?_
    refine xk_sX (rest := []) (c_X_checkArgument_0 l hsl g B o lim σ) gd_X_X_checkArgument hd_X_checkArgument hC hW hX hS trivial (by omega) (by omega) (by omega) (by omega) hl.1 rfl (Nat.le_of_ble_eq_true rfl) d_X_message_29 (fun ce9 q9 H locs hX hS e1 e2 e3 => ?_)
    exact xr_FX hC hxt hW hX hS (by omega) (by omega) e1 e2 e3 (k := 0) (v := 0) (by simp only [xp_message, c_1, if_true, if_false, reduceIte, Bool.false_eq_true, Bool.true_eq_false, and_true, true_and, and_false, false_and, or_true, true_or, or_false, false_or, not_true_eq_false, not_false_eq_true] <;> rfl) rfl
  · have c_1 := xs_b1 c_1
    refine lv_iload_n hx hb d_X_message_7 rfl (lv_at hl 2 rfl) ?_
    refine xk_sQ (rest := []) (c_X_isAccount l g B o lim σ y) gd_X_X_isAccount hd_X_isAccount hC hW hX hS trivial (by omega) (by omega) (by omega) (by omega) hl.1 rfl (Nat.le_of_ble_eq_true rfl) d_X_message_8 (fun v8 H locs hv hX hS hF => ?_)
    obtain rfl := hv
    refine lv_if_eq (tgt := 28) hx hb d_X_message_11 (by decide) (fun c_2 => ?_) (fun c_2 => ?_)
    · have c_2 := xs_b0 c_2
      refine lv_iconst (v := 0) hx hb d_X_message_28 (by decide) ?_
      refine xk_sX (rest := []) (c_X_checkArgument_0 l hsl g B o lim σ) gd_X_X_checkArgument hd_X_checkArgument hC hW hX hS trivial (by omega) (by omega) (by omega) (by omega) hl.1 rfl (Nat.le_of_ble_eq_true rfl) d_X_message_29 (fun ce9 q9 H locs hX hS e1 e2 e3 => ?_)
      exact xr_FX hC hxt hW hX hS (by omega) (by omega) e1 e2 e3 (k := 0) (v := 0) (by simp only [xp_message, c_1, c_2, if_true, if_false, reduceIte, Bool.false_eq_true, Bool.true_eq_false, and_true, true_and, and_false, false_and, or_true, true_or, or_false, false_or, not_true_eq_false, not_false_eq_true] <;> rfl) rfl
    · have c_2 := xs_b1 c_2
      refine lv_iload_n hx hb d_X_message_14 rfl (lv_at hl 3 rfl) ?_
      refine lv_iconst (v := (-1)) hx hb d_X_message_15 (by decide) ?_
      refine lv_icmp_lt (tgt := 28) hx hb d_X_message_16 (by decide) (fun c_3 => ?_) (fun c_3 => ?_)
      · refine lv_iconst (v := 0) hx hb d_X_message_28 (by decide) ?_
        refine xk_sX (rest := []) (c_X_checkArgument_0 l hsl g B o lim σ) gd_X_X_checkArgument hd_X_checkArgument hC hW hX hS trivial (by omega) (by omega) (by omega) (by omega) hl.1 rfl (Nat.le_of_ble_eq_true rfl) d_X_message_29 (fun ce9 q9 H locs hX hS e1 e2 e3 => ?_)
        exact xr_FX hC hxt hW hX hS (by omega) (by omega) e1 e2 e3 (k := 0) (v := 0) (by simp only [xp_message, c_1, c_2, c_3, if_true, if_false, reduceIte, Bool.false_eq_true, Bool.true_eq_false, and_true, true_and, and_false, false_and, or_true, true_or, or_false, false_or, not_true_eq_false, not_false_eq_true] <;> rfl) rfl
      · refine lv_iload_n hx hb d_X_message_19 rfl (lv_at hl 3 rfl) ?_
        refine lv_iconst (v := 3) hx hb d_X_message_20 (by decide) ?_
        refine lv_icmp_ge (tgt := 28) hx hb d_X_message_21 (by decide) (fun c_4 => ?_) (fun c_4 => ?_)
        · refine lv_iconst (v := 0) hx hb d_X_message_28 (by decide) ?_
          refine xk_sX (rest := []) (c_X_checkArgument_0 l hsl g B o lim σ) gd_X_X_checkArgument hd_X_checkArgument hC hW hX hS trivial (by omega) (by omega) (by omega) (by omega) hl.1 rfl (Nat.le_of_ble_eq_true rfl) d_X_message_29 (fun ce9 q9 H locs hX hS e1 e2 e3 => ?_)
          exact xr_FX hC hxt hW hX hS (by omega) (by omega) e1 e2 e3 (k := 0) (v := 0) (by simp only [xp_message, c_1, c_2, c_3, c_4, if_true, if_false, reduceIte, Bool.false_eq_true, Bool.true_eq_false, and_true, true_and, and_false, false_and, or_true, true_or, or_false, false_or, not_true_eq_false, not_false_eq_true] <;> rfl) rfl
        · refine lv_iconst (v := 1) hx hb d_X_message_24 (by decide) ?_
          refine lv_goto (tgt := 29) hx hb d_X_message_25 (by decide) ?_
          refine xk_sV (rest := []) (c_X_checkArgument_1 l g B o lim σ) gd_X_X_checkArgument hd_X_checkArgument hC hW hX hS trivial (by omega) (by omega) (by omega) (by omega) hl.1 rfl (Nat.le_of_ble_eq_true rfl) d_X_message_29 (fun H locs hX hS hF => ?_)
          refine lv_aload_n hx hb d_X_message_32 rfl (lv_at hl 0 rfl) ?_
          obtain ⟨v9, hXo, hXl⟩ := hX.1
          refine gf_X_X_connections hx hb hts hown hK hXo rfl d_X_message_33 ?_
          refine lv_iload_n hx hb d_X_message_36 rfl (lv_at hl 1 rfl) ?_
          refine xb_aald (v := o + 36 + 3 * (xs_ix x)) hx hb hK 1 rfl hX.2.2.1 (xm_in6t c_1) rfl d_X_message_37 ?_
          refine lv_astore (lv' := [(5, .ref (o + 36 + 3 * (xs_ix x))), (0, .ref o), (1, .int x), (2, .int y), (3, .int z), (4, .int t)]) hx hb d_X_message_38 hl (by decide) rfl (fun ls hl => ?_)
          refine lv_aload hx hb d_X_message_40 (lv_at hl 0 rfl) ?_
          refine gf_X_C_stage hx hb hts hown hK (hX.2.2.2.2.2.1 (xs_ix x) (xs_ixl (xm_in6t c_1))) rfl d_X_message_42 ?_
          refine lv_iconst (v := 4) hx hb d_X_message_45 (by decide) ?_
          refine lv_icmp_ne (tgt := 53) hx hb d_X_message_46 (by decide) (fun c_5 => ?_) (fun c_5 => ?_)
          · refine lv_iconst (v := 0) hx hb d_X_message_53 (by decide) ?_
            refine xk_sX (rest := []) (c_X_checkState_0 l hsl g B o lim σ) gd_X_X_checkState hd_X_checkState hC hW hX hS trivial (by omega) (by omega) (by omega) (by omega) hl.1 rfl (Nat.le_of_ble_eq_true rfl) d_X_message_54 (fun ce9 q9 H locs hX hS e1 e2 e3 => ?_)
            exact xr_FX hC hxt hW hX hS (by omega) (by omega) e1 e2 e3 (k := 1) (v := 0) (by simp only [xp_message, c_1, c_2, c_3, c_4, c_5, if_true, if_false, reduceIte, Bool.false_eq_true, Bool.true_eq_false, and_true, true_and, and_false, false_and, or_true, true_or, or_false, false_or, not_true_eq_false, not_false_eq_true] <;> rfl) rfl
          · refine lv_iconst (v := 1) hx hb d_X_message_49 (by decide) ?_
            refine lv_goto (tgt := 54) hx hb d_X_message_50 (by decide) ?_
            refine xk_sV (rest := []) (c_X_checkState_1 l g B o lim σ) gd_X_X_checkState hd_X_checkState hC hW hX hS trivial (by omega) (by omega) (by omega) (by omega) hl.1 rfl (Nat.le_of_ble_eq_true rfl) d_X_message_54 (fun H locs hX hS hF => ?_)
            have hvac := hwf.2.1 _ (xs_ixl (xm_in6t c_1)) (Or.inr (Or.inr c_5))
            refine lv_aload_n hx hb d_X_message_57 rfl (lv_at hl 1 rfl) ?_
            refine nw_X_Z hx hb hts hown hK hX hS (by omega) (by omega) d_X_message_58 (fun a9 H9 hn9 hb9 hsz9 hX9 hS9 hF9 => ?_)
            have hX0 := hX
            have hX := hX9
            refine lv_dup hx hb d_X_message_61 rfl ?_
            refine lv_iconst (v := 1) hx hb d_X_message_62 (by decide) ?_
            refine lv_aload hx hb d_X_message_63 (lv_at hl 0 rfl) ?_
            refine gf_X_C_account hx hb hts hown hK (hX.2.2.2.2.2.1 (xs_ix x) (xs_ixl (xm_in6t c_1))) rfl d_X_message_65 ?_
            refine lv_aload hx hb d_X_message_68 (lv_at hl 0 rfl) ?_
            refine gf_X_C_resource hx hb hts hown hK (hX.2.2.2.2.2.1 (xs_ix x) (xs_ixl (xm_in6t c_1))) rfl d_X_message_70 ?_
            refine lv_iload hx hb d_X_message_73 (lv_at hl 5 rfl) ?_
            refine lv_iload_n hx hb d_X_message_75 rfl (lv_at hl 3 rfl) ?_
            refine lv_iload_n hx hb d_X_message_76 rfl (lv_at hl 4 rfl) ?_
            refine in_X_Z (rest := [.ref a9, .ref o]) hC hW hX0 hX9 hS9 hF9 hn9 hb9 hsz9 (by omega) (by omega) (by omega) (by omega) hl.1 rfl (Nat.le_of_ble_eq_true rfl) d_X_message_77 (fun H locs hzn hX hS hF => ?_)
            have hz_6 := hzn
            have hok : xm_ok (1, (xs_cn σ (xs_ix x)).2.1, (xs_cn σ (xs_ix x)).2.2.1, t, y, z) := ⟨hvac, (xm_in8t c_2)⟩
            obtain ⟨v9, hXo, hXl⟩ := hX.1
            refine xk_iV (rest := []) (c_X_send l g B o lim σ a9 (1, (xs_cn σ (xs_ix x)).2.1, (xs_cn σ (xs_ix x)).2.2.1, t, y, z) hok) gd_X_X_send hd_X_send hC hW hX hS (xb_recv hK (ci := xi_X) rfl hXo) hz_6 (by omega) (by omega) (by omega) (by omega) hl.1 rfl (Nat.le_of_ble_eq_true rfl) d_X_message_80 (fun H locs hX hS hF => ?_)
            have hz_6 := hz_6.F hX.2.2.2.2.2.2.2.1 hF
            refine lv_iconst (v := 1) hx hb d_X_message_83 (by decide) ?_
            exact xr_F hC hW hX hS (by omega) (by omega) (by simp only [xp_message, c_1, c_2, c_3, c_4, c_5, xs_cn_scn, xs_nx_scn, xs_up_scn, xs_lt_scn, xs_q_scn, xs_ac_scn, xs_mk_scn, xs_ac_sac, xs_sac_sac, xs_nx_sg, xs_up_sg, xs_lt_sg, xs_cn_sg, xs_q_sg, if_true, if_false, reduceIte, Bool.false_eq_true, Bool.true_eq_false, and_true, true_and, and_false, false_and, or_true, true_or, or_false, false_or, not_true_eq_false, not_false_eq_true] <;> rfl) d_X_message_84
set_option maxHeartbeats 4000000 in
set_option maxRecDepth 100000 in
theorem c_X_subscribe (l : Launch) (hsl : l.stackTraces = false) (g : xw_G) (B : Nat → Prop) (o lim : Nat) (σ : xs_S) (x : Int32) (y : Int32) (z : Int32) (hwf : xm_wf σ) : xc_F l y_X_subscribe (Cond.code y_X_subscribe b_X_subscribe 6 (some .int)) g B o lim σ (xp_subscribe σ x y z) [.ref o, .int x, .int y, .int z] 7 160 29 174 := by
  refine xh_F (own := R_X) (by decide) rfl (Nat.le_of_ble_eq_true rfl) ?_
  intro p e R s m below meth c ls hRf hRl hRc hRs hxt hC hW hl
  obtain ⟨hx, hb, hml, hr, hown, hts, hlk⟩ := id hC
  have hX := hW.1
  have hK := hW.2.1
  have hS : va_S (xw_A o s.heap.size) s.heap s.heap [] := va_S.rf
  have hl : lv_has ls 6 [(0, .ref o), (1, .int x), (2, .int y), (3, .int z)] := hl
  refine lv_iload_n hx hb d_X_subscribe_0 rfl (lv_at hl 1 rfl) ?_
  refine xk_sQ (rest := []) (c_X_isConnection l g B o lim σ x) gd_X_X_isConnection hd_X_isConnection hC hW hX hS trivial (by omega) (by omega) (by omega) (by omega) hl.1 rfl (Nat.le_of_ble_eq_true rfl) d_X_subscribe_1 (fun v8 H locs hv hX hS hF => ?_)
  obtain rfl := hv
  refine lv_if_eq (tgt := 29) hx hb d_X_subscribe_4 (by decide) (fun c_1 => ?_) (fun c_1 => ?_)
  · have c_1 := xs_b0 c_1
    refine lv_iconst (v := 0) hx hb d_X_subscribe_29 (by decide) ?_
    refine xk_sX (rest := []) (c_X_checkArgument_0 l hsl g B o lim σ) gd_X_X_checkArgument hd_X_checkArgument hC hW hX hS trivial (by omega) (by omega) (by omega) (by omega) hl.1 rfl (Nat.le_of_ble_eq_true rfl) d_X_subscribe_30 (fun ce9 q9 H locs hX hS e1 e2 e3 => ?_)
    exact xr_FX hC hxt hW hX hS (by omega) (by omega) e1 e2 e3 (k := 0) (v := 0) (by simp only [xp_subscribe, xp_sub1, xp_sub2, xp_sub3, c_1, if_true, if_false, reduceIte, Bool.false_eq_true, Bool.true_eq_false, and_true, true_and, and_false, false_and, or_true, true_or, or_false, false_or, not_true_eq_false, not_false_eq_true] <;> rfl) rfl
  · have c_1 := xs_b1 c_1
    refine lv_iload_n hx hb d_X_subscribe_7 rfl (lv_at hl 2 rfl) ?_
    refine xk_sQ (rest := []) (c_X_isAccount l g B o lim σ y) gd_X_X_isAccount hd_X_isAccount hC hW hX hS trivial (by omega) (by omega) (by omega) (by omega) hl.1 rfl (Nat.le_of_ble_eq_true rfl) d_X_subscribe_8 (fun v8 H locs hv hX hS hF => ?_)
    obtain rfl := hv
    refine lv_if_eq (tgt := 29) hx hb d_X_subscribe_11 (by decide) (fun c_2 => ?_) (fun c_2 => ?_)
    · have c_2 := xs_b0 c_2
      refine lv_iconst (v := 0) hx hb d_X_subscribe_29 (by decide) ?_
      refine xk_sX (rest := []) (c_X_checkArgument_0 l hsl g B o lim σ) gd_X_X_checkArgument hd_X_checkArgument hC hW hX hS trivial (by omega) (by omega) (by omega) (by omega) hl.1 rfl (Nat.le_of_ble_eq_true rfl) d_X_subscribe_30 (fun ce9 q9 H locs hX hS e1 e2 e3 => ?_)
      exact xr_FX hC hxt hW hX hS (by omega) (by omega) e1 e2 e3 (k := 0) (v := 0) (by simp only [xp_subscribe, xp_sub1, xp_sub2, xp_sub3, c_1, c_2, if_true, if_false, reduceIte, Bool.false_eq_true, Bool.true_eq_false, and_true, true_and, and_false, false_and, or_true, true_or, or_false, false_or, not_true_eq_false, not_false_eq_true] <;> rfl) rfl
    · have c_2 := xs_b1 c_2
      refine lv_iload_n hx hb d_X_subscribe_14 rfl (lv_at hl 3 rfl) ?_
      refine lv_iconst (v := 4) hx hb d_X_subscribe_15 (by decide) ?_
      refine lv_icmp_lt (tgt := 29) hx hb d_X_subscribe_16 (by decide) (fun c_3 => ?_) (fun c_3 => ?_)
      · refine lv_iconst (v := 0) hx hb d_X_subscribe_29 (by decide) ?_
        refine xk_sX (rest := []) (c_X_checkArgument_0 l hsl g B o lim σ) gd_X_X_checkArgument hd_X_checkArgument hC hW hX hS trivial (by omega) (by omega) (by omega) (by omega) hl.1 rfl (Nat.le_of_ble_eq_true rfl) d_X_subscribe_30 (fun ce9 q9 H locs hX hS e1 e2 e3 => ?_)
        exact xr_FX hC hxt hW hX hS (by omega) (by omega) e1 e2 e3 (k := 0) (v := 0) (by simp only [xp_subscribe, xp_sub1, xp_sub2, xp_sub3, c_1, c_2, c_3, if_true, if_false, reduceIte, Bool.false_eq_true, Bool.true_eq_false, and_true, true_and, and_false, false_and, or_true, true_or, or_false, false_or, not_true_eq_false, not_false_eq_true] <;> rfl) rfl
      · refine lv_iload_n hx hb d_X_subscribe_19 rfl (lv_at hl 3 rfl) ?_
        refine lv_bipush (v := 7) hx hb d_X_subscribe_20 (by decide) ?_
        refine lv_icmp_gt (tgt := 29) hx hb d_X_subscribe_22 (by decide) (fun c_4 => ?_) (fun c_4 => ?_)
        · refine lv_iconst (v := 0) hx hb d_X_subscribe_29 (by decide) ?_
          refine xk_sX (rest := []) (c_X_checkArgument_0 l hsl g B o lim σ) gd_X_X_checkArgument hd_X_checkArgument hC hW hX hS trivial (by omega) (by omega) (by omega) (by omega) hl.1 rfl (Nat.le_of_ble_eq_true rfl) d_X_subscribe_30 (fun ce9 q9 H locs hX hS e1 e2 e3 => ?_)
          exact xr_FX hC hxt hW hX hS (by omega) (by omega) e1 e2 e3 (k := 0) (v := 0) (by simp only [xp_subscribe, xp_sub1, xp_sub2, xp_sub3, c_1, c_2, c_3, c_4, if_true, if_false, reduceIte, Bool.false_eq_true, Bool.true_eq_false, and_true, true_and, and_false, false_and, or_true, true_or, or_false, false_or, not_true_eq_false, not_false_eq_true] <;> rfl) rfl
        · refine lv_iconst (v := 1) hx hb d_X_subscribe_25 (by decide) ?_
          refine lv_goto (tgt := 30) hx hb d_X_subscribe_26 (by decide) ?_
          refine xk_sV (rest := []) (c_X_checkArgument_1 l g B o lim σ) gd_X_X_checkArgument hd_X_checkArgument hC hW hX hS trivial (by omega) (by omega) (by omega) (by omega) hl.1 rfl (Nat.le_of_ble_eq_true rfl) d_X_subscribe_30 (fun H locs hX hS hF => ?_)
          refine lv_aload_n hx hb d_X_subscribe_33 rfl (lv_at hl 0 rfl) ?_
          obtain ⟨v9, hXo, hXl⟩ := hX.1
          refine gf_X_X_connections hx hb hts hown hK hXo rfl d_X_subscribe_34 ?_
          refine lv_iload_n hx hb d_X_subscribe_37 rfl (lv_at hl 1 rfl) ?_
          refine xb_aald (v := o + 36 + 3 * (xs_ix x)) hx hb hK 1 rfl hX.2.2.1 (xm_in6t c_1) rfl d_X_subscribe_38 ?_
          refine lv_astore (lv' := [(4, .ref (o + 36 + 3 * (xs_ix x))), (0, .ref o), (1, .int x), (2, .int y), (3, .int z)]) hx hb d_X_subscribe_39 hl (by decide) rfl (fun ls hl => ?_)
          refine lv_aload hx hb d_X_subscribe_41 (lv_at hl 0 rfl) ?_
          refine gf_X_C_account hx hb hts hown hK (hX.2.2.2.2.2.1 (xs_ix x) (xs_ixl (xm_in6t c_1))) rfl d_X_subscribe_43 ?_
          refine lv_iload_n hx hb d_X_subscribe_46 rfl (lv_at hl 3 rfl) ?_
          refine lv_icmp_eq (tgt := 54) hx hb d_X_subscribe_47 (by decide) (fun c_5 => ?_) (fun c_5 => ?_)
          · refine lv_iconst (v := 0) hx hb d_X_subscribe_54 (by decide) ?_
            refine xk_sX (rest := []) (c_X_checkArgument_0 l hsl g B o lim σ) gd_X_X_checkArgument hd_X_checkArgument hC hW hX hS trivial (by omega) (by omega) (by omega) (by omega) hl.1 rfl (Nat.le_of_ble_eq_true rfl) d_X_subscribe_55 (fun ce9 q9 H locs hX hS e1 e2 e3 => ?_)
            exact xr_FX hC hxt hW hX hS (by omega) (by omega) e1 e2 e3 (k := 0) (v := 0) (by simp only [xp_subscribe, xp_sub1, xp_sub2, xp_sub3, c_1, c_2, c_3, c_4, c_5, if_true, if_false, reduceIte, Bool.false_eq_true, Bool.true_eq_false, and_true, true_and, and_false, false_and, or_true, true_or, or_false, false_or, not_true_eq_false, not_false_eq_true] <;> rfl) rfl
          · refine lv_iconst (v := 1) hx hb d_X_subscribe_50 (by decide) ?_
            refine lv_goto (tgt := 55) hx hb d_X_subscribe_51 (by decide) ?_
            refine xk_sV (rest := []) (c_X_checkArgument_1 l g B o lim σ) gd_X_X_checkArgument hd_X_checkArgument hC hW hX hS trivial (by omega) (by omega) (by omega) (by omega) hl.1 rfl (Nat.le_of_ble_eq_true rfl) d_X_subscribe_55 (fun H locs hX hS hF => ?_)
            refine lv_aload hx hb d_X_subscribe_58 (lv_at hl 0 rfl) ?_
            refine gf_X_C_stage hx hb hts hown hK (hX.2.2.2.2.2.1 (xs_ix x) (xs_ixl (xm_in6t c_1))) rfl d_X_subscribe_60 ?_
            refine lv_iconst (v := 4) hx hb d_X_subscribe_63 (by decide) ?_
            refine lv_icmp_ne (tgt := 71) hx hb d_X_subscribe_64 (by decide) (fun c_6 => ?_) (fun c_6 => ?_)
            · refine lv_iconst (v := 0) hx hb d_X_subscribe_71 (by decide) ?_
              refine xk_sX (rest := []) (c_X_checkState_0 l hsl g B o lim σ) gd_X_X_checkState hd_X_checkState hC hW hX hS trivial (by omega) (by omega) (by omega) (by omega) hl.1 rfl (Nat.le_of_ble_eq_true rfl) d_X_subscribe_72 (fun ce9 q9 H locs hX hS e1 e2 e3 => ?_)
              exact xr_FX hC hxt hW hX hS (by omega) (by omega) e1 e2 e3 (k := 1) (v := 0) (by simp only [xp_subscribe, xp_sub1, xp_sub2, xp_sub3, c_1, c_2, c_3, c_4, c_5, c_6, if_true, if_false, reduceIte, Bool.false_eq_true, Bool.true_eq_false, and_true, true_and, and_false, false_and, or_true, true_or, or_false, false_or, not_true_eq_false, not_false_eq_true] <;> rfl) rfl
            · refine lv_iconst (v := 1) hx hb d_X_subscribe_67 (by decide) ?_
              refine lv_goto (tgt := 72) hx hb d_X_subscribe_68 (by decide) ?_
              refine xk_sV (rest := []) (c_X_checkState_1 l g B o lim σ) gd_X_X_checkState hd_X_checkState hC hW hX hS trivial (by omega) (by omega) (by omega) (by omega) hl.1 rfl (Nat.le_of_ble_eq_true rfl) d_X_subscribe_72 (fun H locs hX hS hF => ?_)
              have hvac := hwf.2.1 _ (xs_ixl (xm_in6t c_1)) (Or.inr (Or.inr c_6))
              refine lv_aload_n hx hb d_X_subscribe_75 rfl (lv_at hl 1 rfl) ?_
              obtain ⟨v9, hXo, hXl⟩ := hX.1
              refine gf_X_X_accounts hx hb hts hown hK hXo rfl d_X_subscribe_76 ?_
              refine lv_aload hx hb d_X_subscribe_79 (lv_at hl 0 rfl) ?_
              refine gf_X_C_account hx hb hts hown hK (hX.2.2.2.2.2.1 (xs_ix x) (xs_ixl (xm_in6t c_1))) rfl d_X_subscribe_81 ?_
              refine xb_aald (v := o + 3 + 4 * (xs_ix ((xs_cn σ (xs_ix x)).2.1))) hx hb hK 0 rfl hX.2.1 hvac rfl d_X_subscribe_84 ?_
              refine lv_astore (lv' := [(5, .ref (o + 3 + 4 * (xs_ix ((xs_cn σ (xs_ix x)).2.1)))), (4, .ref (o + 36 + 3 * (xs_ix x))), (0, .ref o), (1, .int x), (2, .int y), (3, .int z)]) hx hb d_X_subscribe_85 hl (by decide) rfl (fun ls hl => ?_)
              refine lv_iload_n hx hb d_X_subscribe_87 rfl (lv_at hl 5 rfl) ?_
              refine lv_iconst (v := 5) hx hb d_X_subscribe_88 (by decide) ?_
              refine lv_icmp_ne (tgt := 105) hx hb d_X_subscribe_89 (by decide) (fun c_7 => ?_) (fun c_7 => ?_)
              · refine lv_iload_n hx hb d_X_subscribe_105 rfl (lv_at hl 5 rfl) ?_
                refine lv_bipush (v := 7) hx hb d_X_subscribe_106 (by decide) ?_
                refine lv_icmp_ne (tgt := 132) hx hb d_X_subscribe_108 (by decide) (fun c_8 => ?_) (fun c_8 => ?_)
                · refine lv_aload hx hb d_X_subscribe_132 (lv_at hl 0 rfl) ?_
                  refine lv_iload_n hx hb d_X_subscribe_134 rfl (lv_at hl 4 rfl) ?_
                  refine lv_iload_n hx hb d_X_subscribe_135 rfl (lv_at hl 5 rfl) ?_
                  refine xk_sV (rest := []) (c_X_changeOwnMarks l g B o lim σ (xs_ix ((xs_cn σ (xs_ix x)).2.1)) (xs_ixl hvac) y (xs_ix y) (xm_in8t c_2) rfl z) gd_X_X_changeOwnMarks hd_X_changeOwnMarks hC hW hX hS trivial (by omega) (by omega) (by omega) (by omega) hl.1 rfl (Nat.le_of_ble_eq_true rfl) d_X_subscribe_136 (fun H locs hX hS hF => ?_)
                  refine lv_aload_n hx hb d_X_subscribe_139 rfl (lv_at hl 2 rfl) ?_
                  refine nw_X_Z hx hb hts hown hK hX hS (by omega) (by omega) d_X_subscribe_140 (fun a9 H9 hn9 hb9 hsz9 hX9 hS9 hF9 => ?_)
                  have hX0 := hX
                  have hX := hX9
                  refine lv_dup hx hb d_X_subscribe_143 rfl ?_
                  refine lv_iload_n hx hb d_X_subscribe_144 rfl (lv_at hl 5 rfl) ?_
                  refine lv_aload hx hb d_X_subscribe_145 (lv_at hl 1 rfl) ?_
                  refine gf_X_C_account hx hb hts hown hK (hX.2.2.2.2.2.1 (xs_ix x) (xs_ixl (xm_in6t c_1))) rfl d_X_subscribe_147 ?_
                  rw [show (xs_cn (xm_com σ (xs_ix ((xs_cn σ (xs_ix x)).2.1)) (xs_ix y) z) (xs_ix x)).2.1 = (xs_cn σ (xs_ix x)).2.1 from by simp only [xs_cn_send, xs_cn_sp, xs_cn_com]]
                  refine lv_iconst (v := (-1)) hx hb d_X_subscribe_150 (by decide) ?_
                  refine lv_iconst (v := 0) hx hb d_X_subscribe_151 (by decide) ?_
                  refine lv_iload_n hx hb d_X_subscribe_152 rfl (lv_at hl 4 rfl) ?_
                  refine lv_iconst (v := (-1)) hx hb d_X_subscribe_153 (by decide) ?_
                  refine in_X_Z (rest := [.ref a9, .ref o]) hC hW hX0 hX9 hS9 hF9 hn9 hb9 hsz9 (by omega) (by omega) (by omega) (by omega) hl.1 rfl (Nat.le_of_ble_eq_true rfl) d_X_subscribe_154 (fun H locs hzn hX hS hF => ?_)
                  have hz_9 := hzn
                  have hok : xm_ok (z, (xs_cn σ (xs_ix x)).2.1, (-1), 0, y, (-1)) := ⟨hvac, (xm_in8t c_2)⟩
                  obtain ⟨v9, hXo, hXl⟩ := hX.1
                  refine xk_iV (rest := []) (c_X_send l g B o lim (xm_com σ (xs_ix ((xs_cn σ (xs_ix x)).2.1)) (xs_ix y) z) a9 (z, (xs_cn σ (xs_ix x)).2.1, (-1), 0, y, (-1)) hok) gd_X_X_send hd_X_send hC hW hX hS (xb_recv hK (ci := xi_X) rfl hXo) hz_9 (by omega) (by omega) (by omega) (by omega) hl.1 rfl (Nat.le_of_ble_eq_true rfl) d_X_subscribe_157 (fun H locs hX hS hF => ?_)
                  have hz_9 := hz_9.F hX.2.2.2.2.2.2.2.1 hF
                  refine lv_iload_n hx hb d_X_subscribe_160 rfl (lv_at hl 5 rfl) ?_
                  refine lv_iconst (v := 5) hx hb d_X_subscribe_161 (by decide) ?_
                  refine lv_icmp_ne (tgt := 176) hx hb d_X_subscribe_162 (by decide) (fun c_11 => ?_) (fun c_11 => absurd c_11 c_7)
                  refine lv_iconst (v := 1) hx hb d_X_subscribe_176 (by decide) ?_
                  exact xr_F hC hW hX hS (by omega) (by omega) (by simp only [xp_subscribe, xp_sub1, xp_sub2, xp_sub3, c_1, c_2, c_3, c_4, c_5, c_6, c_7, c_8, xs_cn_scn, xs_nx_scn, xs_up_scn, xs_lt_scn, xs_q_scn, xs_ac_scn, xs_mk_scn, xs_ac_sac, xs_sac_sac, xs_nx_sg, xs_up_sg, xs_lt_sg, xs_cn_sg, xs_q_sg, if_true, if_false, reduceIte, Bool.false_eq_true, Bool.true_eq_false, and_true, true_and, and_false, false_and, or_true, true_or, or_false, false_or, not_true_eq_false, not_false_eq_true] <;> rfl) d_X_subscribe_177
                · refine lv_aload hx hb d_X_subscribe_111 (lv_at hl 0 rfl) ?_
                  refine lv_iload_n hx hb d_X_subscribe_113 rfl (lv_at hl 4 rfl) ?_
                  refine lv_iconst (v := 2) hx hb d_X_subscribe_114 (by decide) ?_
                  refine xk_iQ (rest := []) (c_A_hasAny l g B o lim σ (xs_ix ((xs_cn σ (xs_ix x)).2.1)) (xs_ixl hvac) y (xs_ix y) (xm_in8t c_2) rfl 2) gd_X_A_hasAny hd_A_hasAny hC hW hX hS (xb_recv hK (ci := xi_A) rfl (hX.2.2.2.1 (xs_ix ((xs_cn σ (xs_ix x)).2.1)) (xs_ixl hvac))) trivial (by omega) (by omega) (by omega) (by omega) hl.1 rfl (Nat.le_of_ble_eq_true rfl) d_X_subscribe_115 (fun v8 H locs hv hX hS hF => ?_)
                  obtain rfl := hv
                  refine lv_if_eq (tgt := 132) hx hb d_X_subscribe_118 (by decide) (fun c_12 => ?_) (fun c_12 => ?_)
                  · have c_12 := xs_b0 c_12
                    refine lv_aload hx hb d_X_subscribe_132 (lv_at hl 0 rfl) ?_
                    refine lv_iload_n hx hb d_X_subscribe_134 rfl (lv_at hl 4 rfl) ?_
                    refine lv_iload_n hx hb d_X_subscribe_135 rfl (lv_at hl 5 rfl) ?_
                    refine xk_sV (rest := []) (c_X_changeOwnMarks l g B o lim σ (xs_ix ((xs_cn σ (xs_ix x)).2.1)) (xs_ixl hvac) y (xs_ix y) (xm_in8t c_2) rfl z) gd_X_X_changeOwnMarks hd_X_changeOwnMarks hC hW hX hS trivial (by omega) (by omega) (by omega) (by omega) hl.1 rfl (Nat.le_of_ble_eq_true rfl) d_X_subscribe_136 (fun H locs hX hS hF => ?_)
                    refine lv_aload_n hx hb d_X_subscribe_139 rfl (lv_at hl 2 rfl) ?_
                    refine nw_X_Z hx hb hts hown hK hX hS (by omega) (by omega) d_X_subscribe_140 (fun a9 H9 hn9 hb9 hsz9 hX9 hS9 hF9 => ?_)
                    have hX0 := hX
                    have hX := hX9
                    refine lv_dup hx hb d_X_subscribe_143 rfl ?_
                    refine lv_iload_n hx hb d_X_subscribe_144 rfl (lv_at hl 5 rfl) ?_
                    refine lv_aload hx hb d_X_subscribe_145 (lv_at hl 1 rfl) ?_
                    refine gf_X_C_account hx hb hts hown hK (hX.2.2.2.2.2.1 (xs_ix x) (xs_ixl (xm_in6t c_1))) rfl d_X_subscribe_147 ?_
                    rw [show (xs_cn (xm_com σ (xs_ix ((xs_cn σ (xs_ix x)).2.1)) (xs_ix y) z) (xs_ix x)).2.1 = (xs_cn σ (xs_ix x)).2.1 from by simp only [xs_cn_send, xs_cn_sp, xs_cn_com]]
                    refine lv_iconst (v := (-1)) hx hb d_X_subscribe_150 (by decide) ?_
                    refine lv_iconst (v := 0) hx hb d_X_subscribe_151 (by decide) ?_
                    refine lv_iload_n hx hb d_X_subscribe_152 rfl (lv_at hl 4 rfl) ?_
                    refine lv_iconst (v := (-1)) hx hb d_X_subscribe_153 (by decide) ?_
                    refine in_X_Z (rest := [.ref a9, .ref o]) hC hW hX0 hX9 hS9 hF9 hn9 hb9 hsz9 (by omega) (by omega) (by omega) (by omega) hl.1 rfl (Nat.le_of_ble_eq_true rfl) d_X_subscribe_154 (fun H locs hzn hX hS hF => ?_)
                    have hz_13 := hzn
                    have hok : xm_ok (z, (xs_cn σ (xs_ix x)).2.1, (-1), 0, y, (-1)) := ⟨hvac, (xm_in8t c_2)⟩
                    obtain ⟨v9, hXo, hXl⟩ := hX.1
                    refine xk_iV (rest := []) (c_X_send l g B o lim (xm_com σ (xs_ix ((xs_cn σ (xs_ix x)).2.1)) (xs_ix y) z) a9 (z, (xs_cn σ (xs_ix x)).2.1, (-1), 0, y, (-1)) hok) gd_X_X_send hd_X_send hC hW hX hS (xb_recv hK (ci := xi_X) rfl hXo) hz_13 (by omega) (by omega) (by omega) (by omega) hl.1 rfl (Nat.le_of_ble_eq_true rfl) d_X_subscribe_157 (fun H locs hX hS hF => ?_)
                    have hz_13 := hz_13.F hX.2.2.2.2.2.2.2.1 hF
                    refine lv_iload_n hx hb d_X_subscribe_160 rfl (lv_at hl 5 rfl) ?_
                    refine lv_iconst (v := 5) hx hb d_X_subscribe_161 (by decide) ?_
                    refine lv_icmp_ne (tgt := 176) hx hb d_X_subscribe_162 (by decide) (fun c_15 => ?_) (fun c_15 => absurd c_15 c_7)
                    refine lv_iconst (v := 1) hx hb d_X_subscribe_176 (by decide) ?_
                    exact xr_F hC hW hX hS (by omega) (by omega) (by simp only [xp_subscribe, xp_sub1, xp_sub2, xp_sub3, c_1, c_2, c_3, c_4, c_5, c_6, c_7, c_8, c_12, xs_cn_scn, xs_nx_scn, xs_up_scn, xs_lt_scn, xs_q_scn, xs_ac_scn, xs_mk_scn, xs_ac_sac, xs_sac_sac, xs_nx_sg, xs_up_sg, xs_lt_sg, xs_cn_sg, xs_q_sg, if_true, if_false, reduceIte, Bool.false_eq_true, Bool.true_eq_false, and_true, true_and, and_false, false_and, or_true, true_or, or_false, false_or, not_true_eq_false, not_false_eq_true] <;> rfl) d_X_subscribe_177
                  · have c_12 := xs_b1 c_12
                    refine lv_aload_n hx hb d_X_subscribe_121 rfl (lv_at hl 2 rfl) ?_
                    refine lv_aload hx hb d_X_subscribe_122 (lv_at hl 1 rfl) ?_
                    refine gf_X_C_account hx hb hts hown hK (hX.2.2.2.2.2.1 (xs_ix x) (xs_ixl (xm_in6t c_1))) rfl d_X_subscribe_124 ?_
                    refine lv_iload_n hx hb d_X_subscribe_127 rfl (lv_at hl 4 rfl) ?_
                    refine lv_iconst (v := 3) hx hb d_X_subscribe_128 (by decide) ?_
                    obtain ⟨v9, hXo, hXl⟩ := hX.1
                    refine xk_iV (rest := []) (c_X_sendPresences l g B o lim σ ((xs_cn σ (xs_ix x)).2.1) y 3 hvac (xm_in8t c_2)) gd_X_X_sendPresences hd_X_sendPresences hC hW hX hS (xb_recv hK (ci := xi_X) rfl hXo) trivial (by omega) (by omega) (by omega) (by omega) hl.1 rfl (Nat.le_of_ble_eq_true rfl) d_X_subscribe_129 (fun H locs hX hS hF => ?_)
                    refine lv_aload hx hb d_X_subscribe_132 (lv_at hl 0 rfl) ?_
                    refine lv_iload_n hx hb d_X_subscribe_134 rfl (lv_at hl 4 rfl) ?_
                    refine lv_iload_n hx hb d_X_subscribe_135 rfl (lv_at hl 5 rfl) ?_
                    refine xk_sV (rest := []) (c_X_changeOwnMarks l g B o lim (xm_sp 6 0 σ ((xs_cn σ (xs_ix x)).2.1) y 3) (xs_ix ((xs_cn σ (xs_ix x)).2.1)) (xs_ixl hvac) y (xs_ix y) (xm_in8t c_2) rfl z) gd_X_X_changeOwnMarks hd_X_changeOwnMarks hC hW hX hS trivial (by omega) (by omega) (by omega) (by omega) hl.1 rfl (Nat.le_of_ble_eq_true rfl) d_X_subscribe_136 (fun H locs hX hS hF => ?_)
                    refine lv_aload_n hx hb d_X_subscribe_139 rfl (lv_at hl 2 rfl) ?_
                    refine nw_X_Z hx hb hts hown hK hX hS (by omega) (by omega) d_X_subscribe_140 (fun a9 H9 hn9 hb9 hsz9 hX9 hS9 hF9 => ?_)
                    have hX0 := hX
                    have hX := hX9
                    refine lv_dup hx hb d_X_subscribe_143 rfl ?_
                    refine lv_iload_n hx hb d_X_subscribe_144 rfl (lv_at hl 5 rfl) ?_
                    refine lv_aload hx hb d_X_subscribe_145 (lv_at hl 1 rfl) ?_
                    refine gf_X_C_account hx hb hts hown hK (hX.2.2.2.2.2.1 (xs_ix x) (xs_ixl (xm_in6t c_1))) rfl d_X_subscribe_147 ?_
                    rw [show (xs_cn (xm_com (xm_sp 6 0 σ ((xs_cn σ (xs_ix x)).2.1) y 3) (xs_ix ((xs_cn σ (xs_ix x)).2.1)) (xs_ix y) z) (xs_ix x)).2.1 = (xs_cn σ (xs_ix x)).2.1 from by simp only [xs_cn_send, xs_cn_sp, xs_cn_com]]
                    refine lv_iconst (v := (-1)) hx hb d_X_subscribe_150 (by decide) ?_
                    refine lv_iconst (v := 0) hx hb d_X_subscribe_151 (by decide) ?_
                    refine lv_iload_n hx hb d_X_subscribe_152 rfl (lv_at hl 4 rfl) ?_
                    refine lv_iconst (v := (-1)) hx hb d_X_subscribe_153 (by decide) ?_
                    refine in_X_Z (rest := [.ref a9, .ref o]) hC hW hX0 hX9 hS9 hF9 hn9 hb9 hsz9 (by omega) (by omega) (by omega) (by omega) hl.1 rfl (Nat.le_of_ble_eq_true rfl) d_X_subscribe_154 (fun H locs hzn hX hS hF => ?_)
                    have hz_16 := hzn
                    have hok : xm_ok (z, (xs_cn σ (xs_ix x)).2.1, (-1), 0, y, (-1)) := ⟨hvac, (xm_in8t c_2)⟩
                    obtain ⟨v9, hXo, hXl⟩ := hX.1
                    refine xk_iV (rest := []) (c_X_send l g B o lim (xm_com (xm_sp 6 0 σ ((xs_cn σ (xs_ix x)).2.1) y 3) (xs_ix ((xs_cn σ (xs_ix x)).2.1)) (xs_ix y) z) a9 (z, (xs_cn σ (xs_ix x)).2.1, (-1), 0, y, (-1)) hok) gd_X_X_send hd_X_send hC hW hX hS (xb_recv hK (ci := xi_X) rfl hXo) hz_16 (by omega) (by omega) (by omega) (by omega) hl.1 rfl (Nat.le_of_ble_eq_true rfl) d_X_subscribe_157 (fun H locs hX hS hF => ?_)
                    have hz_16 := hz_16.F hX.2.2.2.2.2.2.2.1 hF
                    refine lv_iload_n hx hb d_X_subscribe_160 rfl (lv_at hl 5 rfl) ?_
                    refine lv_iconst (v := 5) hx hb d_X_subscribe_161 (by decide) ?_
                    refine lv_icmp_ne (tgt := 176) hx hb d_X_subscribe_162 (by decide) (fun c_18 => ?_) (fun c_18 => absurd c_18 c_7)
                    refine lv_iconst (v := 1) hx hb d_X_subscribe_176 (by decide) ?_
                    exact xr_F hC hW hX hS (by omega) (by omega) (by simp only [xp_subscribe, xp_sub1, xp_sub2, xp_sub3, c_1, c_2, c_3, c_4, c_5, c_6, c_7, c_8, c_12, xs_cn_scn, xs_nx_scn, xs_up_scn, xs_lt_scn, xs_q_scn, xs_ac_scn, xs_mk_scn, xs_ac_sac, xs_sac_sac, xs_nx_sg, xs_up_sg, xs_lt_sg, xs_cn_sg, xs_q_sg, if_true, if_false, reduceIte, Bool.false_eq_true, Bool.true_eq_false, and_true, true_and, and_false, false_and, or_true, true_or, or_false, false_or, not_true_eq_false, not_false_eq_true] <;> rfl) d_X_subscribe_177
              · refine lv_aload hx hb d_X_subscribe_92 (lv_at hl 0 rfl) ?_
                refine lv_iload_n hx hb d_X_subscribe_94 rfl (lv_at hl 4 rfl) ?_
                refine lv_bipush (v := 8) hx hb d_X_subscribe_95 (by decide) ?_
                refine xk_iQ (rest := []) (c_A_hasAny l g B o lim σ (xs_ix ((xs_cn σ (xs_ix x)).2.1)) (xs_ixl hvac) y (xs_ix y) (xm_in8t c_2) rfl 8) gd_X_A_hasAny hd_A_hasAny hC hW hX hS (xb_recv hK (ci := xi_A) rfl (hX.2.2.2.1 (xs_ix ((xs_cn σ (xs_ix x)).2.1)) (xs_ixl hvac))) trivial (by omega) (by omega) (by omega) (by omega) hl.1 rfl (Nat.le_of_ble_eq_true rfl) d_X_subscribe_97 (fun v8 H locs hv hX hS hF => ?_)
                obtain rfl := hv
                refine lv_if_ne (tgt := 105) hx hb d_X_subscribe_100 (by decide) (fun c_19 => ?_) (fun c_19 => ?_)
                · have c_19 := xs_b1 c_19
                  refine lv_iload_n hx hb d_X_subscribe_105 rfl (lv_at hl 5 rfl) ?_
                  refine lv_bipush (v := 7) hx hb d_X_subscribe_106 (by decide) ?_
                  have c_20 : ¬ z = 7 := by rw [c_7]; decide
                  refine lv_icmp_ne (tgt := 132) hx hb d_X_subscribe_108 (by decide) (fun c_21 => ?_) (fun c_21 => absurd c_21 c_20)
                  refine lv_aload hx hb d_X_subscribe_132 (lv_at hl 0 rfl) ?_
                  refine lv_iload_n hx hb d_X_subscribe_134 rfl (lv_at hl 4 rfl) ?_
                  refine lv_iload_n hx hb d_X_subscribe_135 rfl (lv_at hl 5 rfl) ?_
                  refine xk_sV (rest := []) (c_X_changeOwnMarks l g B o lim σ (xs_ix ((xs_cn σ (xs_ix x)).2.1)) (xs_ixl hvac) y (xs_ix y) (xm_in8t c_2) rfl z) gd_X_X_changeOwnMarks hd_X_changeOwnMarks hC hW hX hS trivial (by omega) (by omega) (by omega) (by omega) hl.1 rfl (Nat.le_of_ble_eq_true rfl) d_X_subscribe_136 (fun H locs hX hS hF => ?_)
                  refine lv_aload_n hx hb d_X_subscribe_139 rfl (lv_at hl 2 rfl) ?_
                  refine nw_X_Z hx hb hts hown hK hX hS (by omega) (by omega) d_X_subscribe_140 (fun a9 H9 hn9 hb9 hsz9 hX9 hS9 hF9 => ?_)
                  have hX0 := hX
                  have hX := hX9
                  refine lv_dup hx hb d_X_subscribe_143 rfl ?_
                  refine lv_iload_n hx hb d_X_subscribe_144 rfl (lv_at hl 5 rfl) ?_
                  refine lv_aload hx hb d_X_subscribe_145 (lv_at hl 1 rfl) ?_
                  refine gf_X_C_account hx hb hts hown hK (hX.2.2.2.2.2.1 (xs_ix x) (xs_ixl (xm_in6t c_1))) rfl d_X_subscribe_147 ?_
                  rw [show (xs_cn (xm_com σ (xs_ix ((xs_cn σ (xs_ix x)).2.1)) (xs_ix y) z) (xs_ix x)).2.1 = (xs_cn σ (xs_ix x)).2.1 from by simp only [xs_cn_send, xs_cn_sp, xs_cn_com]]
                  refine lv_iconst (v := (-1)) hx hb d_X_subscribe_150 (by decide) ?_
                  refine lv_iconst (v := 0) hx hb d_X_subscribe_151 (by decide) ?_
                  refine lv_iload_n hx hb d_X_subscribe_152 rfl (lv_at hl 4 rfl) ?_
                  refine lv_iconst (v := (-1)) hx hb d_X_subscribe_153 (by decide) ?_
                  refine in_X_Z (rest := [.ref a9, .ref o]) hC hW hX0 hX9 hS9 hF9 hn9 hb9 hsz9 (by omega) (by omega) (by omega) (by omega) hl.1 rfl (Nat.le_of_ble_eq_true rfl) d_X_subscribe_154 (fun H locs hzn hX hS hF => ?_)
                  have hz_22 := hzn
                  have hok : xm_ok (z, (xs_cn σ (xs_ix x)).2.1, (-1), 0, y, (-1)) := ⟨hvac, (xm_in8t c_2)⟩
                  obtain ⟨v9, hXo, hXl⟩ := hX.1
                  refine xk_iV (rest := []) (c_X_send l g B o lim (xm_com σ (xs_ix ((xs_cn σ (xs_ix x)).2.1)) (xs_ix y) z) a9 (z, (xs_cn σ (xs_ix x)).2.1, (-1), 0, y, (-1)) hok) gd_X_X_send hd_X_send hC hW hX hS (xb_recv hK (ci := xi_X) rfl hXo) hz_22 (by omega) (by omega) (by omega) (by omega) hl.1 rfl (Nat.le_of_ble_eq_true rfl) d_X_subscribe_157 (fun H locs hX hS hF => ?_)
                  have hz_22 := hz_22.F hX.2.2.2.2.2.2.2.1 hF
                  refine lv_iload_n hx hb d_X_subscribe_160 rfl (lv_at hl 5 rfl) ?_
                  refine lv_iconst (v := 5) hx hb d_X_subscribe_161 (by decide) ?_
                  refine lv_icmp_ne (tgt := 176) hx hb d_X_subscribe_162 (by decide) (fun c_24 => absurd c_7 c_24) (fun c_24 => ?_)
                  refine lv_aload_n hx hb d_X_subscribe_165 rfl (lv_at hl 2 rfl) ?_
                  refine lv_aload hx hb d_X_subscribe_166 (lv_at hl 1 rfl) ?_
                  refine gf_X_C_account hx hb hts hown hK (hX.2.2.2.2.2.1 (xs_ix x) (xs_ixl (xm_in6t c_1))) rfl d_X_subscribe_168 ?_
                  rw [show (xs_cn (xm_send (xm_com σ (xs_ix ((xs_cn σ (xs_ix x)).2.1)) (xs_ix y) z) (z, (xs_cn σ (xs_ix x)).2.1, (-1), 0, y, (-1))) (xs_ix x)).2.1 = (xs_cn σ (xs_ix x)).2.1 from by simp only [xs_cn_send, xs_cn_sp, xs_cn_com]]
                  refine lv_iload_n hx hb d_X_subscribe_171 rfl (lv_at hl 4 rfl) ?_
                  refine lv_iconst (v := 2) hx hb d_X_subscribe_172 (by decide) ?_
                  obtain ⟨v9, hXo, hXl⟩ := hX.1
                  refine xk_iV (rest := []) (c_X_sendPresences l g B o lim (xm_send (xm_com σ (xs_ix ((xs_cn σ (xs_ix x)).2.1)) (xs_ix y) z) (z, (xs_cn σ (xs_ix x)).2.1, (-1), 0, y, (-1))) ((xs_cn σ (xs_ix x)).2.1) y 2 hvac (xm_in8t c_2)) gd_X_X_sendPresences hd_X_sendPresences hC hW hX hS (xb_recv hK (ci := xi_X) rfl hXo) trivial (by omega) (by omega) (by omega) (by omega) hl.1 rfl (Nat.le_of_ble_eq_true rfl) d_X_subscribe_173 (fun H locs hX hS hF => ?_)
                  have hz_22 := hz_22.F hX.2.2.2.2.2.2.2.1 hF
                  refine lv_iconst (v := 1) hx hb d_X_subscribe_176 (by decide) ?_
                  exact xr_F hC hW hX hS (by omega) (by omega) (by simp only [xp_subscribe, xp_sub1, xp_sub2, xp_sub3, c_1, c_2, c_3, c_4, c_5, c_6, c_7, c_19, xs_cn_scn, xs_nx_scn, xs_up_scn, xs_lt_scn, xs_q_scn, xs_ac_scn, xs_mk_scn, xs_ac_sac, xs_sac_sac, xs_nx_sg, xs_up_sg, xs_lt_sg, xs_cn_sg, xs_q_sg, if_true, if_false, reduceIte, Bool.false_eq_true, Bool.true_eq_false, and_true, true_and, and_false, false_and, or_true, true_or, or_false, false_or, not_true_eq_false, not_false_eq_true] <;> rfl) d_X_subscribe_177
                · have c_19 := xs_b0 c_19
                  refine lv_iconst (v := 0) hx hb d_X_subscribe_103 (by decide) ?_
                  exact xr_F hC hW hX hS (by omega) (by omega) (by simp only [xp_subscribe, xp_sub1, xp_sub2, xp_sub3, c_1, c_2, c_3, c_4, c_5, c_6, c_7, c_19, xs_cn_scn, xs_nx_scn, xs_up_scn, xs_lt_scn, xs_q_scn, xs_ac_scn, xs_mk_scn, xs_ac_sac, xs_sac_sac, xs_nx_sg, xs_up_sg, xs_lt_sg, xs_cn_sg, xs_q_sg, if_true, if_false, reduceIte, Bool.false_eq_true, Bool.true_eq_false, and_true, true_and, and_false, false_and, or_true, true_or, or_false, false_or, not_true_eq_false, not_false_eq_true] <;> rfl) d_X_subscribe_104
set_option maxHeartbeats 4000000 in
set_option maxRecDepth 100000 in
theorem c_X_link (l : Launch) (hsl : l.stackTraces = false) (g : xw_G) (B : Nat → Prop) (o lim : Nat) (σ : xs_S) (u : Bool) (hwf : xm_wf σ) : xc_F l y_X_link (Cond.code y_X_link b_X_link 4 (some .int)) g B o lim σ (xp_link σ u) [.ref o, .int (xs_b u)] 5 112 8 48 := by
  refine xh_F (own := R_X) (by decide) rfl (Nat.le_of_ble_eq_true rfl) ?_
  intro p e R s m below meth c ls hRf hRl hRc hRs hxt hC hW hl
  obtain ⟨hx, hb, hml, hr, hown, hts, hlk⟩ := id hC
  have hX := hW.1
  have hK := hW.2.1
  have hS : va_S (xw_A o s.heap.size) s.heap s.heap [] := va_S.rf
  have hl : lv_has ls 4 [(0, .ref o), (1, .int (xs_b u))] := hl
  refine lv_aload_n hx hb d_X_link_0 rfl (lv_at hl 0 rfl) ?_
  refine lv_iload_n hx hb d_X_link_1 rfl (lv_at hl 1 rfl) ?_
  refine pf_X_X_linkUp (b := u) hx hb hts hown hK hX hS d_X_link_2 (fun H locs hX hS hF => ?_)
  refine lv_iload_n hx hb d_X_link_5 rfl (lv_at hl 1 rfl) ?_
  refine lv_if_ne (tgt := 11) hx hb d_X_link_6 (by decide) (fun c_1 => ?_) (fun c_1 => ?_)
  · have c_1 := xs_b1 c_1
    have hN8 : (xs_q σ 14).length ≤ 8 := by obtain ⟨f9, hq9, hl9, hz9⟩ := hX.2.2.2.2.2.2.1 14 (by decide); exact hl9
    refine lv_aload_n hx hb d_X_link_11 rfl (lv_at hl 0 rfl) ?_
    obtain ⟨v9, hXo, hXl⟩ := hX.1
    refine gf_X_X_waiting hx hb hts hown hK hXo rfl d_X_link_12 ?_
    obtain ⟨f9, hq9, hl9, hz9⟩ := hX.2.2.2.2.2.2.1 14 (by decide)
    refine gf_X_Q_size hx hb hts hown hK hq9.1 rfl d_X_link_15 ?_
    refine lv_istore_n (lv' := [(2, .int (nI (xs_q (xs_sg σ u (xs_nx σ) (xs_lt σ)) 14).length)), (0, .ref o), (1, .int (xs_b u))]) hx hb d_X_link_18 rfl hl (by decide) rfl (fun ls hl => ?_)
    refine lv_iconst (v := 0) hx hb d_X_link_19 (by decide) ?_
    refine lv_istore_n (lv' := [(3, .int 0), (2, .int (nI (xs_q (xs_sg σ u (xs_nx σ) (xs_lt σ)) 14).length)), (0, .ref o), (1, .int (xs_b u))]) hx hb d_X_link_20 rfl hl (by decide) rfl (fun ls hl => ?_)
    have loop : ∀ (n i : Nat) (τ : xs_S) (H : Heap) (locs : List Loc) (cells slots : Nat) (ls : Array Slot), i + n = (xs_q σ 14).length → xw_R g B o τ H → va_S (xw_A o s.heap.size) s.heap H locs → cells + n * 1 ≤ 8 → slots + n * 6 ≤ 48 → lv_has ls 4 [(3, .int (nI i)), (2, .int (nI (xs_q (xs_sg σ u (xs_nx σ) (xs_lt σ)) 14).length)), (0, .ref o), (1, .int (xs_b u))] → xm_lk n τ = xm_lk (xs_q σ 14).length (xp_link1 σ u) → (xs_q τ 14).length = n → (∀ z, z ∈ xs_q τ 14 → xm_ok z) → W p l e R s m ([.ref o, .int (xs_b u)] : List Value).toArray below meth c H locs cells slots (xe_MQ below (xf_Q g B o lim (xp_link σ u) s.heap.size) (xf_X g B o lim (xp_link σ u) 8 48 s.heap.size) ([.ref o, .int (xs_b u)] : List Value).toArray s 8 48 (xw_A o s.heap.size)) (F0 m 21 ls []) := by
      intro n
      induction n with
      | zero =>
        intro i τ H locs cells slots ls hi hX hS  hc hs hl hres hln hok9
        obtain rfl : i = (xs_q σ 14).length := by omega
        refine lv_iload_n hx hb d_X_link_21 rfl (lv_at hl 0 rfl) ?_
        refine lv_iload_n hx hb d_X_link_22 rfl (lv_at hl 1 rfl) ?_
        refine lv_icmp_ge (tgt := 43) hx hb d_X_link_23 (by decide) (fun c_2 => ?_) (fun c_2 => absurd (nI_le (Nat.le_refl ((xs_q σ 14).length)) (Nat.lt_of_le_of_lt hN8 (by decide))) c_2)
        refine lv_iload_n hx hb d_X_link_43 rfl (lv_at hl 1 rfl) ?_
        exact xr_F hC hW hX hS (by omega) (by omega) (by unfold xp_link; rw [if_pos c_1, ← hres]; rfl) d_X_link_44
      | succ n ih =>
        intro i τ H locs cells slots ls hi hX hS  hc hs hl hres hln hok9
        refine lv_iload_n hx hb d_X_link_21 rfl (lv_at hl 0 rfl) ?_
        refine lv_iload_n hx hb d_X_link_22 rfl (lv_at hl 1 rfl) ?_
        refine lv_icmp_ge (tgt := 43) hx hb d_X_link_23 (by decide) (fun c_3 => absurd c_3 (nI_ge (show i < (xs_q σ 14).length by omega) (Nat.lt_of_le_of_lt hN8 (by decide)))) (fun c_3 => ?_)
        refine lv_aload_n hx hb d_X_link_26 rfl (lv_at hl 2 rfl) ?_
        refine lv_aload_n hx hb d_X_link_27 rfl (lv_at hl 2 rfl) ?_
        obtain ⟨v9, hXo, hXl⟩ := hX.1
        refine gf_X_X_waiting hx hb hts hown hK hXo rfl d_X_link_28 ?_
        have hne : ∃ z t, xs_q τ 14 = z :: t := xm_ne hln
        obtain ⟨f9, hq9, hl9, hz9⟩ := hX.2.2.2.2.2.2.1 14 (by decide)
        refine xk_iQ (rest := [.ref o]) (c_Q_removeFirst l g B o lim τ 14 (by decide) hne) gd_X_Q_removeFirst hd_Q_removeFirst hC hW hX hS (xb_recv hK (ci := xi_Q) rfl hq9.1) trivial (by omega) (by omega) (by omega) (by omega) hl.1 rfl (Nat.le_of_ble_eq_true rfl) d_X_link_31 (fun v8 H locs hv hX hS hF => ?_)
        obtain ⟨b9, rfl, hz_4⟩ := hv
        have hok : xm_ok ((xs_q τ 14).headD xs_z0) := hok9 _ (by obtain ⟨z, t, h⟩ := hne; rw [h]; exact List.mem_cons_self)
        obtain ⟨v9, hXo, hXl⟩ := hX.1
        refine xk_iV (rest := []) (c_X_arrive l g B o lim (xm_pop τ 14) b9 ((xs_q τ 14).headD xs_z0) hok) gd_X_X_arrive hd_X_arrive hC hW hX hS (xb_recv hK (ci := xi_X) rfl hXo) hz_4 (by omega) (by omega) (by omega) (by omega) hl.1 rfl (Nat.le_of_ble_eq_true rfl) d_X_link_34 (fun H locs hX hS hF => ?_)
        have hz_4 := hz_4.F hX.2.2.2.2.2.2.2.1 hF
        refine lv_iinc (v := nI (i + 1)) (lv' := [(3, .int (nI (i + 1))), (2, .int (nI (xs_q (xs_sg σ u (xs_nx σ) (xs_lt σ)) 14).length)), (0, .ref o), (1, .int (xs_b u))]) hx hb d_X_link_37 hl (k := 0) rfl (nI_1 _) (by decide) rfl (fun ls hl => ?_)
        refine lv_goto (tgt := 21) hx hb d_X_link_40 (by decide) ?_
        exact ih (i + 1) (xm_arr (xm_pop τ 14) ((xs_q τ 14).headD xs_z0)) _ _ _ _ ls (by omega) hX hS  (by omega) (by omega) (lv_sub hl [0, 1, 2, 3] rfl) (by rw [← hres]; simp only [xm_lk, if_true, if_false, reduceIte, Bool.false_eq_true, Bool.true_eq_false, and_true, true_and, and_false, false_and, or_true, true_or, or_false, false_or, not_true_eq_false, not_false_eq_true] <;> rfl) (by rw [xm_q14_arr hok, xm_q_pop, List.length_tail, hln]; rfl) (fun z hz => hok9 z (List.mem_of_mem_tail (by rw [xm_q14_arr hok, xm_q_pop] at hz; exact hz)))
    exact loop ((xs_q σ 14).length) 0 (xp_link1 σ u) _ _ _ _ ls (by omega) hX hS  (by omega) (by omega) (lv_sub hl [0, 1, 2, 3] rfl) rfl rfl hwf.2.2
  · have c_1 := xs_b0 c_1
    refine lv_iconst (v := 0) hx hb d_X_link_9 (by decide) ?_
    exact xr_F hC hW hX hS (by omega) (by omega) (by unfold xp_link; rw [if_neg (by rw [c_1]; decide)]; rfl) d_X_link_10
set_option maxHeartbeats 4000000 in
set_option maxRecDepth 100000 in
theorem c_X_take (l : Launch) (hsl : l.stackTraces = false) (g : xw_G) (B : Nat → Prop) (o lim : Nat) (σ : xs_S) (x : Int32) : xc_F l y_X_take (Cond.code y_X_take b_X_take 4 (some .int)) g B o lim σ (xp_take σ x) [.ref o, .int x] 7 109 2 12 := by
  refine xh_F (own := R_X) (by decide) rfl (Nat.le_of_ble_eq_true rfl) ?_
  intro p e R s m below meth c ls hRf hRl hRc hRs hxt hC hW hl
  obtain ⟨hx, hb, hml, hr, hown, hts, hlk⟩ := id hC
  have hX := hW.1
  have hK := hW.2.1
  have hS : va_S (xw_A o s.heap.size) s.heap s.heap [] := va_S.rf
  have hl : lv_has ls 4 [(0, .ref o), (1, .int x)] := hl
  refine lv_iload_n hx hb d_X_take_0 rfl (lv_at hl 1 rfl) ?_
  refine xk_sQ (rest := []) (c_X_isConnection l g B o lim σ x) gd_X_X_isConnection hd_X_isConnection hC hW hX hS trivial (by omega) (by omega) (by omega) (by omega) hl.1 rfl (Nat.le_of_ble_eq_true rfl) d_X_take_1 (fun v8 H locs hv hX hS hF => ?_)
  obtain rfl := hv
  cases c_1 : (xm_in6 x) with
  | false =>
    refine xk_sX (rest := []) (c_X_checkArgument_0 l hsl g B o lim σ) gd_X_X_checkArgument hd_X_checkArgument hC hW hX hS trivial (by omega) (by omega) (by omega) (by omega) hl.1 rfl (Nat.le_of_ble_eq_true rfl) d_X_take_4 (fun ce9 q9 H locs hX hS e1 e2 e3 => ?_)
    exact xr_FX hC hxt hW hX hS (by omega) (by omega) e1 e2 e3 (k := 0) (v := 0) (by simp only [xp_take, c_1, if_true, if_false, reduceIte, Bool.false_eq_true, Bool.true_eq_false, and_true, true_and, and_false, false_and, or_true, true_or, or_false, false_or, not_true_eq_false, not_false_eq_true] <;> rfl) rfl
  | true =>
    refine xk_sV (rest := []) (c_X_checkArgument_1 l g B o lim σ) gd_X_X_checkArgument hd_X_checkArgument hC hW hX hS trivial (by omega) (by omega) (by omega) (by omega) hl.1 rfl (Nat.le_of_ble_eq_true rfl) d_X_take_4 (fun H locs hX hS hF => ?_)
    refine lv_aload_n hx hb d_X_take_7 rfl (lv_at hl 0 rfl) ?_
    obtain ⟨v9, hXo, hXl⟩ := hX.1
    refine gf_X_X_connections hx hb hts hown hK hXo rfl d_X_take_8 ?_
    refine lv_iload_n hx hb d_X_take_11 rfl (lv_at hl 1 rfl) ?_
    refine xb_aald (v := o + 36 + 3 * (xs_ix x)) hx hb hK 1 rfl hX.2.2.1 (xm_in6t c_1) rfl d_X_take_12 ?_
    refine gf_X_C_inbox hx hb hts hown hK (hX.2.2.2.2.2.1 (xs_ix x) (xs_ixl (xm_in6t c_1))) rfl d_X_take_13 ?_
    refine lv_astore_n (lv' := [(2, .ref (o + xs_qo (8 + (xs_ix x)))), (0, .ref o), (1, .int x)]) hx hb d_X_take_16 rfl hl (by decide) rfl (fun ls hl => ?_)
    refine lv_aload_n hx hb d_X_take_17 rfl (lv_at hl 0 rfl) ?_
    obtain ⟨f9, hq9, hl9, hz9⟩ := hX.2.2.2.2.2.2.1 (8 + (xs_ix x)) (xs_8 (xs_ixl (xm_in6t c_1)))
    refine gf_X_Q_size hx hb hts hown hK hq9.1 rfl d_X_take_18 ?_
    refine lv_if_ne (tgt := 32) hx hb d_X_take_21 (by decide) (fun c_2 => ?_) (fun c_2 => ?_)
    · refine lv_aload_n hx hb d_X_take_32 rfl (lv_at hl 0 rfl) ?_
      have hne := xm_len1 c_2
      obtain ⟨f9, hq9, hl9, hz9⟩ := hX.2.2.2.2.2.2.1 (8 + (xs_ix x)) (xs_8 (xs_ixl (xm_in6t c_1)))
      refine xk_iQ (rest := []) (c_Q_removeFirst l g B o lim σ (8 + (xs_ix x)) (xs_8 (xs_ixl (xm_in6t c_1))) hne) gd_X_Q_removeFirst hd_Q_removeFirst hC hW hX hS (xb_recv hK (ci := xi_Q) rfl hq9.1) trivial (by omega) (by omega) (by omega) (by omega) hl.1 rfl (Nat.le_of_ble_eq_true rfl) d_X_take_33 (fun v8 H locs hv hX hS hF => ?_)
      obtain ⟨b9, rfl, hz_3⟩ := hv
      refine lv_astore_n (lv' := [(3, .ref b9), (2, .ref (o + xs_qo (8 + (xs_ix x)))), (0, .ref o), (1, .int x)]) hx hb d_X_take_36 rfl hl (by decide) rfl (fun ls hl => ?_)
      refine lv_aload_n hx hb d_X_take_37 rfl (lv_at hl 2 rfl) ?_
      refine lv_aload_n hx hb d_X_take_38 rfl (lv_at hl 0 rfl) ?_
      refine pf_X_X_lastTaken hx hb hts hown hK hX hS hz_3 d_X_take_39 (fun H locs hX hS hF => ?_)
      have hz_3 := hz_3.F hX.2.2.2.2.2.2.2.1 hF
      refine lv_aload_n hx hb d_X_take_42 rfl (lv_at hl 0 rfl) ?_
      refine gf_X_Z_kind hx hb hts hown hK hz_3.1 rfl d_X_take_43 ?_
      exact xr_F hC hW hX hS (by omega) (by omega) (by obtain ⟨z9, t9, e9⟩ := hne; simp only [xp_take, c_1, c_2, e9, List.headD_cons, if_true, if_false, reduceIte, Bool.false_eq_true, Bool.true_eq_false, and_true, true_and, and_false, false_and, or_true, true_or, or_false, false_or, not_true_eq_false, not_false_eq_true] <;> rfl) d_X_take_46
    · exact xr_T hC hsl hxt hW hX hS hl.1 (k := 3) (v := 0) (by obtain ⟨f9, hq9, hl9, hz9⟩ := hX.2.2.2.2.2.2.1 (8 + xs_ix x) (xs_8 (xs_ixl (xm_in6t c_1))); have e9 := xm_len0 c_2 (Nat.lt_of_le_of_lt (Nat.le_trans hl9 (xs_rml _)) (by decide)); simp only [xp_take, c_1, c_2, e9, if_true, if_false, reduceIte, Bool.false_eq_true, Bool.true_eq_false, and_true, true_and, and_false, false_and, or_true, true_or, or_false, false_or, not_true_eq_false, not_false_eq_true]) rfl hkl_4 hii_4 hia_4 hat_4 d_X_take_24 d_X_take_27 d_X_take_28 d_X_take_31 (by omega) (by omega) (by omega) (by omega) (by omega) (by omega)
set_option maxHeartbeats 4000000 in
set_option maxRecDepth 100000 in
theorem c_X_taken (l : Launch) (hsl : l.stackTraces = false) (g : xw_G) (B : Nat → Prop) (o lim : Nat) (σ : xs_S) (x : Int32) : xc_F l y_X_taken (Cond.code y_X_taken b_X_taken 3 (some .int)) g B o lim σ (xp_taken σ x) [.ref o, .int x] 6 89 1 6 := by
  refine xh_F (own := R_X) (by decide) rfl (Nat.le_of_ble_eq_true rfl) ?_
  intro p e R s m below meth c ls hRf hRl hRc hRs hxt hC hW hl
  obtain ⟨hx, hb, hml, hr, hown, hts, hlk⟩ := id hC
  have hX := hW.1
  have hK := hW.2.1
  have hS : va_S (xw_A o s.heap.size) s.heap s.heap [] := va_S.rf
  have hl : lv_has ls 3 [(0, .ref o), (1, .int x)] := hl
  refine lv_aload_n hx hb d_X_taken_0 rfl (lv_at hl 0 rfl) ?_
  obtain ⟨v9, hXo, hXl⟩ := hX.1
  refine gf_X_X_lastTaken hx hb hts hown hK hXo rfl d_X_taken_1 ?_
  cases hlt : xs_lt σ with
  | none =>
    rw [hlt] at hXl
    obtain rfl : v9 = .null := hXl
    refine lv_astore_nN (lv' := [(2, .null), (0, .ref o), (1, .int x)]) hx hb d_X_taken_4 rfl hl (by decide) rfl (fun ls hl => ?_)
    refine lv_aload_nN hx hb d_X_taken_5 rfl (lv_at hl 0 rfl) ?_
    refine lv_ifnonnullN hx hb d_X_taken_6 ?_
    exact xr_T hC hsl hxt hW hX hS hl.1 (k := 3) (v := 0) (by simp only [xp_taken, hlt, xs_cn_scn, xs_nx_scn, xs_up_scn, xs_lt_scn, xs_q_scn, xs_ac_scn, xs_mk_scn, xs_ac_sac, xs_sac_sac, xs_nx_sg, xs_up_sg, xs_lt_sg, xs_cn_sg, xs_q_sg, if_true, if_false, reduceIte, Bool.false_eq_true, Bool.true_eq_false, and_true, true_and, and_false, false_and, or_true, true_or, or_false, false_or, not_true_eq_false, not_false_eq_true] <;> rfl) rfl hkl_4 hii_4 hia_4 hat_4 d_X_taken_9 d_X_taken_12 d_X_taken_13 d_X_taken_16 (by omega) (by omega) (by omega) (by omega) (by omega) (by omega)
  | some zt =>
    rw [hlt] at hXl
    obtain ⟨at9, rfl, hzt⟩ := hXl
    refine lv_astore_n (lv' := [(2, .ref at9), (0, .ref o), (1, .int x)]) hx hb d_X_taken_4 rfl hl (by decide) rfl (fun ls hl => ?_)
    refine lv_aload_n hx hb d_X_taken_5 rfl (lv_at hl 0 rfl) ?_
    refine lv_ifnonnull (tgt := 17) hx hb d_X_taken_6 (by decide) ?_
    refine lv_iload_n hx hb d_X_taken_17 rfl (lv_at hl 2 rfl) ?_
    by_cases c_1 : x = 0
    · refine lv_tableIn (tgt := 44) (off := 26) hx hb d_X_taken_18 (by rw [c_1]; decide) (by rw [c_1]; decide) (by rw [c_1]; rfl) (by decide) ?_
      refine lv_aload_n hx hb d_X_taken_44 rfl (lv_at hl 0 rfl) ?_
      refine gf_X_Z_from hx hb hts hown hK hzt.1 rfl d_X_taken_45 ?_
      exact xr_F hC hW hX hS (by omega) (by omega) (by simp only [xp_taken, hlt, c_1, xs_cn_scn, xs_nx_scn, xs_up_scn, xs_lt_scn, xs_q_scn, xs_ac_scn, xs_mk_scn, xs_ac_sac, xs_sac_sac, xs_nx_sg, xs_up_sg, xs_lt_sg, xs_cn_sg, xs_q_sg, if_true, if_false, reduceIte, Bool.false_eq_true, Bool.true_eq_false, and_true, true_and, and_false, false_and, or_true, true_or, or_false, false_or, not_true_eq_false, not_false_eq_true] <;> rfl) d_X_taken_48
    by_cases c_2 : x = 1
    · refine lv_tableIn (tgt := 49) (off := 31) hx hb d_X_taken_18 (by rw [c_2]; decide) (by rw [c_2]; decide) (by rw [c_2]; rfl) (by decide) ?_
      refine lv_aload_n hx hb d_X_taken_49 rfl (lv_at hl 0 rfl) ?_
      refine gf_X_Z_resource hx hb hts hown hK hzt.1 rfl d_X_taken_50 ?_
      exact xr_F hC hW hX hS (by omega) (by omega) (by simp only [xp_taken, hlt, c_1, c_2, xs_cn_scn, xs_nx_scn, xs_up_scn, xs_lt_scn, xs_q_scn, xs_ac_scn, xs_mk_scn, xs_ac_sac, xs_sac_sac, xs_nx_sg, xs_up_sg, xs_lt_sg, xs_cn_sg, xs_q_sg, if_true, if_false, reduceIte, Bool.false_eq_true, Bool.true_eq_false, and_true, true_and, and_false, false_and, or_true, true_or, or_false, false_or, not_true_eq_false, not_false_eq_true] <;> rfl) d_X_taken_53
    by_cases c_3 : x = 2
    · refine lv_tableIn (tgt := 54) (off := 36) hx hb d_X_taken_18 (by rw [c_3]; decide) (by rw [c_3]; decide) (by rw [c_3]; rfl) (by decide) ?_
      refine lv_aload_n hx hb d_X_taken_54 rfl (lv_at hl 0 rfl) ?_
      refine gf_X_Z_value hx hb hts hown hK hzt.1 rfl d_X_taken_55 ?_
      exact xr_F hC hW hX hS (by omega) (by omega) (by simp only [xp_taken, hlt, c_1, c_2, c_3, xs_cn_scn, xs_nx_scn, xs_up_scn, xs_lt_scn, xs_q_scn, xs_ac_scn, xs_mk_scn, xs_ac_sac, xs_sac_sac, xs_nx_sg, xs_up_sg, xs_lt_sg, xs_cn_sg, xs_q_sg, if_true, if_false, reduceIte, Bool.false_eq_true, Bool.true_eq_false, and_true, true_and, and_false, false_and, or_true, true_or, or_false, false_or, not_true_eq_false, not_false_eq_true] <;> rfl) d_X_taken_58
    refine lv_tableOut (tgt := 59) hx hb d_X_taken_18 (by have q0 := lv_neT c_1 (a := 0) rfl; have q1 := lv_neT c_2 (a := 1) rfl; have q2 := lv_neT c_3 (a := 2) rfl; omega) (by decide) ?_
    exact xr_T hC hsl hxt hW hX hS hl.1 (k := 0) (v := 0) (by simp only [xp_taken, hlt, c_1, c_2, c_3, xs_cn_scn, xs_nx_scn, xs_up_scn, xs_lt_scn, xs_q_scn, xs_ac_scn, xs_mk_scn, xs_ac_sac, xs_sac_sac, xs_nx_sg, xs_up_sg, xs_lt_sg, xs_cn_sg, xs_q_sg, if_true, if_false, reduceIte, Bool.false_eq_true, Bool.true_eq_false, and_true, true_and, and_false, false_and, or_true, true_or, or_false, false_or, not_true_eq_false, not_false_eq_true] <;> rfl) rfl hkl_1 hii_1 hia_1 hat_1 d_X_taken_59 d_X_taken_62 d_X_taken_63 d_X_taken_66 (by omega) (by omega) (by omega) (by omega) (by omega) (by omega)
set_option maxHeartbeats 4000000 in
set_option maxRecDepth 100000 in
theorem c_X_roster (l : Launch) (hsl : l.stackTraces = false) (g : xw_G) (B : Nat → Prop) (o lim : Nat) (σ : xs_S) (x : Int32) (y : Int32) : xc_F l y_X_roster (Cond.code y_X_roster b_X_roster 3 (some .int)) g B o lim σ (xp_roster σ x y) [.ref o, .int x, .int y] 7 109 1 6 := by
  refine xh_F (own := R_X) (by decide) rfl (Nat.le_of_ble_eq_true rfl) ?_
  intro p e R s m below meth c ls hRf hRl hRc hRs hxt hC hW hl
  obtain ⟨hx, hb, hml, hr, hown, hts, hlk⟩ := id hC
  have hX := hW.1
  have hK := hW.2.1
  have hS : va_S (xw_A o s.heap.size) s.heap s.heap [] := va_S.rf
  have hl : lv_has ls 3 [(0, .ref o), (1, .int x), (2, .int y)] := hl
  refine lv_iload_n hx hb d_X_roster_0 rfl (lv_at hl 1 rfl) ?_
  refine xk_sQ (rest := []) (c_X_isAccount l g B o lim σ x) gd_X_X_isAccount hd_X_isAccount hC hW hX hS trivial (by omega) (by omega) (by omega) (by omega) hl.1 rfl (Nat.le_of_ble_eq_true rfl) d_X_roster_1 (fun v8 H locs hv hX hS hF => ?_)
  obtain rfl := hv
  refine lv_if_eq (tgt := 18) hx hb d_X_roster_4 (by decide) (fun c_1 => ?_) (fun c_1 => ?_)
  · have c_1 := xs_b0 c_1
    refine lv_iconst (v := 0) hx hb d_X_roster_18 (by decide) ?_
    refine xk_sX (rest := []) (c_X_checkArgument_0 l hsl g B o lim σ) gd_X_X_checkArgument hd_X_checkArgument hC hW hX hS trivial (by omega) (by omega) (by omega) (by omega) hl.1 rfl (Nat.le_of_ble_eq_true rfl) d_X_roster_19 (fun ce9 q9 H locs hX hS e1 e2 e3 => ?_)
    exact xr_FX hC hxt hW hX hS (by omega) (by omega) e1 e2 e3 (k := 0) (v := 0) (by simp only [xp_roster, c_1, if_true, if_false, reduceIte, Bool.false_eq_true, Bool.true_eq_false, and_true, true_and, and_false, false_and, or_true, true_or, or_false, false_or, not_true_eq_false, not_false_eq_true] <;> rfl) rfl
  · have c_1 := xs_b1 c_1
    refine lv_iload_n hx hb d_X_roster_7 rfl (lv_at hl 2 rfl) ?_
    refine xk_sQ (rest := []) (c_X_isAccount l g B o lim σ y) gd_X_X_isAccount hd_X_isAccount hC hW hX hS trivial (by omega) (by omega) (by omega) (by omega) hl.1 rfl (Nat.le_of_ble_eq_true rfl) d_X_roster_8 (fun v8 H locs hv hX hS hF => ?_)
    obtain rfl := hv
    refine lv_if_eq (tgt := 18) hx hb d_X_roster_11 (by decide) (fun c_2 => ?_) (fun c_2 => ?_)
    · have c_2 := xs_b0 c_2
      refine lv_iconst (v := 0) hx hb d_X_roster_18 (by decide) ?_
      refine xk_sX (rest := []) (c_X_checkArgument_0 l hsl g B o lim σ) gd_X_X_checkArgument hd_X_checkArgument hC hW hX hS trivial (by omega) (by omega) (by omega) (by omega) hl.1 rfl (Nat.le_of_ble_eq_true rfl) d_X_roster_19 (fun ce9 q9 H locs hX hS e1 e2 e3 => ?_)
      exact xr_FX hC hxt hW hX hS (by omega) (by omega) e1 e2 e3 (k := 0) (v := 0) (by simp only [xp_roster, c_1, c_2, if_true, if_false, reduceIte, Bool.false_eq_true, Bool.true_eq_false, and_true, true_and, and_false, false_and, or_true, true_or, or_false, false_or, not_true_eq_false, not_false_eq_true] <;> rfl) rfl
    · have c_2 := xs_b1 c_2
      refine lv_iconst (v := 1) hx hb d_X_roster_14 (by decide) ?_
      refine lv_goto (tgt := 19) hx hb d_X_roster_15 (by decide) ?_
      refine xk_sV (rest := []) (c_X_checkArgument_1 l g B o lim σ) gd_X_X_checkArgument hd_X_checkArgument hC hW hX hS trivial (by omega) (by omega) (by omega) (by omega) hl.1 rfl (Nat.le_of_ble_eq_true rfl) d_X_roster_19 (fun H locs hX hS hF => ?_)
      refine lv_aload_n hx hb d_X_roster_22 rfl (lv_at hl 0 rfl) ?_
      obtain ⟨v9, hXo, hXl⟩ := hX.1
      refine gf_X_X_accounts hx hb hts hown hK hXo rfl d_X_roster_23 ?_
      refine lv_iload_n hx hb d_X_roster_26 rfl (lv_at hl 1 rfl) ?_
      refine xb_aald (v := o + 3 + 4 * (xs_ix x)) hx hb hK 0 rfl hX.2.1 (xm_in8t c_1) rfl d_X_roster_27 ?_
      refine gf_X_A_marks hx hb hts hown hK (hX.2.2.2.1 (xs_ix x) (xs_ixl (xm_in8t c_1))) rfl d_X_roster_28 ?_
      refine lv_iload_n hx hb d_X_roster_31 rfl (lv_at hl 2 rfl) ?_
      refine xb_iald hx hb hK 3 rfl (hX.2.2.2.2.1 (xs_ix x) (xs_ixl (xm_in8t c_1))) (xm_in8t c_2) d_X_roster_32 ?_
      exact xr_F hC hW hX hS (by omega) (by omega) (by simp only [xp_roster, c_1, c_2, xs_cn_scn, xs_nx_scn, xs_up_scn, xs_lt_scn, xs_q_scn, xs_ac_scn, xs_mk_scn, xs_ac_sac, xs_sac_sac, xs_nx_sg, xs_up_sg, xs_lt_sg, xs_cn_sg, xs_q_sg, if_true, if_false, reduceIte, Bool.false_eq_true, Bool.true_eq_false, and_true, true_and, and_false, false_and, or_true, true_or, or_false, false_or, not_true_eq_false, not_false_eq_true] <;> rfl) d_X_roster_33
set_option maxHeartbeats 4000000 in
set_option maxRecDepth 100000 in
theorem c_X_connection (l : Launch) (hsl : l.stackTraces = false) (g : xw_G) (B : Nat → Prop) (o lim : Nat) (σ : xs_S) (x : Int32) (y : Int32) : xc_F l y_X_connection (Cond.code y_X_connection b_X_connection 4 (some .int)) g B o lim σ (xp_connection σ x y) [.ref o, .int x, .int y] 7 109 2 12 := by
  refine xh_F (own := R_X) (by decide) rfl (Nat.le_of_ble_eq_true rfl) ?_
  intro p e R s m below meth c ls hRf hRl hRc hRs hxt hC hW hl
  obtain ⟨hx, hb, hml, hr, hown, hts, hlk⟩ := id hC
  have hX := hW.1
  have hK := hW.2.1
  have hS : va_S (xw_A o s.heap.size) s.heap s.heap [] := va_S.rf
  have hl : lv_has ls 4 [(0, .ref o), (1, .int x), (2, .int y)] := hl
  refine lv_iload_n hx hb d_X_connection_0 rfl (lv_at hl 1 rfl) ?_
  refine xk_sQ (rest := []) (c_X_isConnection l g B o lim σ x) gd_X_X_isConnection hd_X_isConnection hC hW hX hS trivial (by omega) (by omega) (by omega) (by omega) hl.1 rfl (Nat.le_of_ble_eq_true rfl) d_X_connection_1 (fun v8 H locs hv hX hS hF => ?_)
  obtain rfl := hv
  cases c_1 : (xm_in6 x) with
  | false =>
    refine xk_sX (rest := []) (c_X_checkArgument_0 l hsl g B o lim σ) gd_X_X_checkArgument hd_X_checkArgument hC hW hX hS trivial (by omega) (by omega) (by omega) (by omega) hl.1 rfl (Nat.le_of_ble_eq_true rfl) d_X_connection_4 (fun ce9 q9 H locs hX hS e1 e2 e3 => ?_)
    exact xr_FX hC hxt hW hX hS (by omega) (by omega) e1 e2 e3 (k := 0) (v := 0) (by simp only [xp_connection, xs_b, c_1, if_true, if_false, reduceIte, Bool.false_eq_true, Bool.true_eq_false, and_true, true_and, and_false, false_and, or_true, true_or, or_false, false_or, not_true_eq_false, not_false_eq_true] <;> rfl) rfl
  | true =>
    refine xk_sV (rest := []) (c_X_checkArgument_1 l g B o lim σ) gd_X_X_checkArgument hd_X_checkArgument hC hW hX hS trivial (by omega) (by omega) (by omega) (by omega) hl.1 rfl (Nat.le_of_ble_eq_true rfl) d_X_connection_4 (fun H locs hX hS hF => ?_)
    refine lv_aload_n hx hb d_X_connection_7 rfl (lv_at hl 0 rfl) ?_
    obtain ⟨v9, hXo, hXl⟩ := hX.1
    refine gf_X_X_connections hx hb hts hown hK hXo rfl d_X_connection_8 ?_
    refine lv_iload_n hx hb d_X_connection_11 rfl (lv_at hl 1 rfl) ?_
    refine xb_aald (v := o + 36 + 3 * (xs_ix x)) hx hb hK 1 rfl hX.2.2.1 (xm_in6t c_1) rfl d_X_connection_12 ?_
    refine lv_astore_n (lv' := [(3, .ref (o + 36 + 3 * (xs_ix x))), (0, .ref o), (1, .int x), (2, .int y)]) hx hb d_X_connection_13 rfl hl (by decide) rfl (fun ls hl => ?_)
    refine lv_iload_n hx hb d_X_connection_14 rfl (lv_at hl 3 rfl) ?_
    by_cases c_2 : y = 0
    · refine lv_tableIn (tgt := 48) (off := 33) hx hb d_X_connection_15 (by rw [c_2]; decide) (by rw [c_2]; decide) (by rw [c_2]; rfl) (by decide) ?_
      refine lv_aload_n hx hb d_X_connection_48 rfl (lv_at hl 0 rfl) ?_
      refine gf_X_C_stage hx hb hts hown hK (hX.2.2.2.2.2.1 (xs_ix x) (xs_ixl (xm_in6t c_1))) rfl d_X_connection_49 ?_
      exact xr_F hC hW hX hS (by omega) (by omega) (by simp only [xp_connection, xs_b, c_1, c_2, xs_cn_scn, xs_nx_scn, xs_up_scn, xs_lt_scn, xs_q_scn, xs_ac_scn, xs_mk_scn, xs_ac_sac, xs_sac_sac, xs_nx_sg, xs_up_sg, xs_lt_sg, xs_cn_sg, xs_q_sg, if_true, if_false, reduceIte, Bool.false_eq_true, Bool.true_eq_false, and_true, true_and, and_false, false_and, or_true, true_or, or_false, false_or, not_true_eq_false, not_false_eq_true] <;> rfl) d_X_connection_52
    by_cases c_3 : y = 1
    · refine lv_tableIn (tgt := 53) (off := 38) hx hb d_X_connection_15 (by rw [c_3]; decide) (by rw [c_3]; decide) (by rw [c_3]; rfl) (by decide) ?_
      refine lv_aload_n hx hb d_X_connection_53 rfl (lv_at hl 0 rfl) ?_
      refine gf_X_C_account hx hb hts hown hK (hX.2.2.2.2.2.1 (xs_ix x) (xs_ixl (xm_in6t c_1))) rfl d_X_connection_54 ?_
      exact xr_F hC hW hX hS (by omega) (by omega) (by simp only [xp_connection, xs_b, c_1, c_2, c_3, xs_cn_scn, xs_nx_scn, xs_up_scn, xs_lt_scn, xs_q_scn, xs_ac_scn, xs_mk_scn, xs_ac_sac, xs_sac_sac, xs_nx_sg, xs_up_sg, xs_lt_sg, xs_cn_sg, xs_q_sg, if_true, if_false, reduceIte, Bool.false_eq_true, Bool.true_eq_false, and_true, true_and, and_false, false_and, or_true, true_or, or_false, false_or, not_true_eq_false, not_false_eq_true] <;> rfl) d_X_connection_57
    by_cases c_4 : y = 2
    · refine lv_tableIn (tgt := 58) (off := 43) hx hb d_X_connection_15 (by rw [c_4]; decide) (by rw [c_4]; decide) (by rw [c_4]; rfl) (by decide) ?_
      refine lv_aload_n hx hb d_X_connection_58 rfl (lv_at hl 0 rfl) ?_
      refine gf_X_C_resource hx hb hts hown hK (hX.2.2.2.2.2.1 (xs_ix x) (xs_ixl (xm_in6t c_1))) rfl d_X_connection_59 ?_
      exact xr_F hC hW hX hS (by omega) (by omega) (by simp only [xp_connection, xs_b, c_1, c_2, c_3, c_4, xs_cn_scn, xs_nx_scn, xs_up_scn, xs_lt_scn, xs_q_scn, xs_ac_scn, xs_mk_scn, xs_ac_sac, xs_sac_sac, xs_nx_sg, xs_up_sg, xs_lt_sg, xs_cn_sg, xs_q_sg, if_true, if_false, reduceIte, Bool.false_eq_true, Bool.true_eq_false, and_true, true_and, and_false, false_and, or_true, true_or, or_false, false_or, not_true_eq_false, not_false_eq_true] <;> rfl) d_X_connection_62
    by_cases c_5 : y = 3
    · refine lv_tableIn (tgt := 63) (off := 48) hx hb d_X_connection_15 (by rw [c_5]; decide) (by rw [c_5]; decide) (by rw [c_5]; rfl) (by decide) ?_
      refine lv_aload_n hx hb d_X_connection_63 rfl (lv_at hl 0 rfl) ?_
      refine gf_X_C_available hx hb hts hown hK (hX.2.2.2.2.2.1 (xs_ix x) (xs_ixl (xm_in6t c_1))) rfl d_X_connection_64 ?_
      refine lv_if_eq (tgt := 74) hx hb d_X_connection_67 (by decide) (fun c_6 => ?_) (fun c_6 => ?_)
      · have c_6 := xs_b0 c_6
        refine lv_iconst (v := 0) hx hb d_X_connection_74 (by decide) ?_
        exact xr_F hC hW hX hS (by omega) (by omega) (by simp only [xp_connection, xs_b, c_1, c_2, c_3, c_4, c_5, c_6, xs_cn_scn, xs_nx_scn, xs_up_scn, xs_lt_scn, xs_q_scn, xs_ac_scn, xs_mk_scn, xs_ac_sac, xs_sac_sac, xs_nx_sg, xs_up_sg, xs_lt_sg, xs_cn_sg, xs_q_sg, if_true, if_false, reduceIte, Bool.false_eq_true, Bool.true_eq_false, and_true, true_and, and_false, false_and, or_true, true_or, or_false, false_or, not_true_eq_false, not_false_eq_true] <;> rfl) d_X_connection_75
      · have c_6 := xs_b1 c_6
        refine lv_iconst (v := 1) hx hb d_X_connection_70 (by decide) ?_
        refine lv_goto (tgt := 75) hx hb d_X_connection_71 (by decide) ?_
        exact xr_F hC hW hX hS (by omega) (by omega) (by simp only [xp_connection, xs_b, c_1, c_2, c_3, c_4, c_5, c_6, xs_cn_scn, xs_nx_scn, xs_up_scn, xs_lt_scn, xs_q_scn, xs_ac_scn, xs_mk_scn, xs_ac_sac, xs_sac_sac, xs_nx_sg, xs_up_sg, xs_lt_sg, xs_cn_sg, xs_q_sg, if_true, if_false, reduceIte, Bool.false_eq_true, Bool.true_eq_false, and_true, true_and, and_false, false_and, or_true, true_or, or_false, false_or, not_true_eq_false, not_false_eq_true] <;> rfl) d_X_connection_75
    by_cases c_7 : y = 4
    · refine lv_tableIn (tgt := 76) (off := 61) hx hb d_X_connection_15 (by rw [c_7]; decide) (by rw [c_7]; decide) (by rw [c_7]; rfl) (by decide) ?_
      refine lv_aload_n hx hb d_X_connection_76 rfl (lv_at hl 0 rfl) ?_
      refine gf_X_C_inbox hx hb hts hown hK (hX.2.2.2.2.2.1 (xs_ix x) (xs_ixl (xm_in6t c_1))) rfl d_X_connection_77 ?_
      obtain ⟨f9, hq9, hl9, hz9⟩ := hX.2.2.2.2.2.2.1 (8 + (xs_ix x)) (xs_8 (xs_ixl (xm_in6t c_1)))
      refine gf_X_Q_size hx hb hts hown hK hq9.1 rfl d_X_connection_80 ?_
      exact xr_F hC hW hX hS (by omega) (by omega) (by simp only [xp_connection, xs_b, c_1, c_2, c_3, c_4, c_5, c_7, xs_cn_scn, xs_nx_scn, xs_up_scn, xs_lt_scn, xs_q_scn, xs_ac_scn, xs_mk_scn, xs_ac_sac, xs_sac_sac, xs_nx_sg, xs_up_sg, xs_lt_sg, xs_cn_sg, xs_q_sg, if_true, if_false, reduceIte, Bool.false_eq_true, Bool.true_eq_false, and_true, true_and, and_false, false_and, or_true, true_or, or_false, false_or, not_true_eq_false, not_false_eq_true] <;> rfl) d_X_connection_83
    refine lv_tableOut (tgt := 84) hx hb d_X_connection_15 (by have q0 := lv_neT c_2 (a := 0) rfl; have q1 := lv_neT c_3 (a := 1) rfl; have q2 := lv_neT c_4 (a := 2) rfl; have q3 := lv_neT c_5 (a := 3) rfl; have q4 := lv_neT c_7 (a := 4) rfl; omega) (by decide) ?_
    exact xr_T hC hsl hxt hW hX hS hl.1 (k := 0) (v := 0) (by simp only [xp_connection, xs_b, c_1, c_2, c_3, c_4, c_5, c_7, xs_cn_scn, xs_nx_scn, xs_up_scn, xs_lt_scn, xs_q_scn, xs_ac_scn, xs_mk_scn, xs_ac_sac, xs_sac_sac, xs_nx_sg, xs_up_sg, xs_lt_sg, xs_cn_sg, xs_q_sg, if_true, if_false, reduceIte, Bool.false_eq_true, Bool.true_eq_false, and_true, true_and, and_false, false_and, or_true, true_or, or_false, false_or, not_true_eq_false, not_false_eq_true] <;> rfl) rfl hkl_1 hii_1 hia_1 hat_1 d_X_connection_84 d_X_connection_87 d_X_connection_88 d_X_connection_91 (by omega) (by omega) (by omega) (by omega) (by omega) (by omega)
set_option maxHeartbeats 4000000 in
set_option maxRecDepth 100000 in
theorem c_X_count (l : Launch) (hsl : l.stackTraces = false) (g : xw_G) (B : Nat → Prop) (o lim : Nat) (σ : xs_S) (x : Int32) : xc_F l y_X_count (Cond.code y_X_count b_X_count 2 (some .int)) g B o lim σ (xp_count σ x) [.ref o, .int x] 7 109 1 6 := by
  refine xh_F (own := R_X) (by decide) rfl (Nat.le_of_ble_eq_true rfl) ?_
  intro p e R s m below meth c ls hRf hRl hRc hRs hxt hC hW hl
  obtain ⟨hx, hb, hml, hr, hown, hts, hlk⟩ := id hC
  have hX := hW.1
  have hK := hW.2.1
  have hS : va_S (xw_A o s.heap.size) s.heap s.heap [] := va_S.rf
  have hl : lv_has ls 2 [(0, .ref o), (1, .int x)] := hl
  refine lv_iload_n hx hb d_X_count_0 rfl (lv_at hl 1 rfl) ?_
  by_cases c_1 : x = 0
  · refine lv_tableIn (tgt := 32) (off := 31) hx hb d_X_count_1 (by rw [c_1]; decide) (by rw [c_1]; decide) (by rw [c_1]; rfl) (by decide) ?_
    refine lv_aload_n hx hb d_X_count_32 rfl (lv_at hl 0 rfl) ?_
    obtain ⟨v9, hXo, hXl⟩ := hX.1
    refine xk_iQ (rest := []) (c_X_keptForAll l g B o lim σ) gd_X_X_keptForAll hd_X_keptForAll hC hW hX hS (xb_recv hK (ci := xi_X) rfl hXo) trivial (by omega) (by omega) (by omega) (by omega) hl.1 rfl (Nat.le_of_ble_eq_true rfl) d_X_count_33 (fun v8 H locs hv hX hS hF => ?_)
    obtain rfl := hv
    exact xr_F hC hW hX hS (by omega) (by omega) (by simp only [xp_count, xs_b, c_1, xs_cn_scn, xs_nx_scn, xs_up_scn, xs_lt_scn, xs_q_scn, xs_ac_scn, xs_mk_scn, xs_ac_sac, xs_sac_sac, xs_nx_sg, xs_up_sg, xs_lt_sg, xs_cn_sg, xs_q_sg, if_true, if_false, reduceIte, Bool.false_eq_true, Bool.true_eq_false, and_true, true_and, and_false, false_and, or_true, true_or, or_false, false_or, not_true_eq_false, not_false_eq_true] <;> rfl) d_X_count_36
  by_cases c_2 : x = 1
  · refine lv_tableIn (tgt := 37) (off := 36) hx hb d_X_count_1 (by rw [c_2]; decide) (by rw [c_2]; decide) (by rw [c_2]; rfl) (by decide) ?_
    refine lv_aload_n hx hb d_X_count_37 rfl (lv_at hl 0 rfl) ?_
    obtain ⟨v9, hXo, hXl⟩ := hX.1
    refine gf_X_X_waiting hx hb hts hown hK hXo rfl d_X_count_38 ?_
    obtain ⟨f9, hq9, hl9, hz9⟩ := hX.2.2.2.2.2.2.1 14 (by decide)
    refine gf_X_Q_size hx hb hts hown hK hq9.1 rfl d_X_count_41 ?_
    exact xr_F hC hW hX hS (by omega) (by omega) (by simp only [xp_count, xs_b, c_1, c_2, xs_cn_scn, xs_nx_scn, xs_up_scn, xs_lt_scn, xs_q_scn, xs_ac_scn, xs_mk_scn, xs_ac_sac, xs_sac_sac, xs_nx_sg, xs_up_sg, xs_lt_sg, xs_cn_sg, xs_q_sg, if_true, if_false, reduceIte, Bool.false_eq_true, Bool.true_eq_false, and_true, true_and, and_false, false_and, or_true, true_or, or_false, false_or, not_true_eq_false, not_false_eq_true] <;> rfl) d_X_count_44
  by_cases c_3 : x = 2
  · refine lv_tableIn (tgt := 45) (off := 44) hx hb d_X_count_1 (by rw [c_3]; decide) (by rw [c_3]; decide) (by rw [c_3]; rfl) (by decide) ?_
    refine lv_aload_n hx hb d_X_count_45 rfl (lv_at hl 0 rfl) ?_
    obtain ⟨v9, hXo, hXl⟩ := hX.1
    refine xk_iQ (rest := []) (c_X_lostByAll l g B o lim σ) gd_X_X_lostByAll hd_X_lostByAll hC hW hX hS (xb_recv hK (ci := xi_X) rfl hXo) trivial (by omega) (by omega) (by omega) (by omega) hl.1 rfl (Nat.le_of_ble_eq_true rfl) d_X_count_46 (fun v8 H locs hv hX hS hF => ?_)
    obtain rfl := hv
    exact xr_F hC hW hX hS (by omega) (by omega) (by simp only [xp_count, xs_b, c_1, c_2, c_3, xs_cn_scn, xs_nx_scn, xs_up_scn, xs_lt_scn, xs_q_scn, xs_ac_scn, xs_mk_scn, xs_ac_sac, xs_sac_sac, xs_nx_sg, xs_up_sg, xs_lt_sg, xs_cn_sg, xs_q_sg, if_true, if_false, reduceIte, Bool.false_eq_true, Bool.true_eq_false, and_true, true_and, and_false, false_and, or_true, true_or, or_false, false_or, not_true_eq_false, not_false_eq_true] <;> rfl) d_X_count_49
  by_cases c_4 : x = 3
  · refine lv_tableIn (tgt := 50) (off := 49) hx hb d_X_count_1 (by rw [c_4]; decide) (by rw [c_4]; decide) (by rw [c_4]; rfl) (by decide) ?_
    refine lv_aload_n hx hb d_X_count_50 rfl (lv_at hl 0 rfl) ?_
    obtain ⟨v9, hXo, hXl⟩ := hX.1
    refine gf_X_X_linkUp hx hb hts hown hK hXo rfl d_X_count_51 ?_
    refine lv_if_eq (tgt := 61) hx hb d_X_count_54 (by decide) (fun c_5 => ?_) (fun c_5 => ?_)
    · have c_5 := xs_b0 c_5
      refine lv_iconst (v := 0) hx hb d_X_count_61 (by decide) ?_
      exact xr_F hC hW hX hS (by omega) (by omega) (by simp only [xp_count, xs_b, c_1, c_2, c_3, c_4, c_5, xs_cn_scn, xs_nx_scn, xs_up_scn, xs_lt_scn, xs_q_scn, xs_ac_scn, xs_mk_scn, xs_ac_sac, xs_sac_sac, xs_nx_sg, xs_up_sg, xs_lt_sg, xs_cn_sg, xs_q_sg, if_true, if_false, reduceIte, Bool.false_eq_true, Bool.true_eq_false, and_true, true_and, and_false, false_and, or_true, true_or, or_false, false_or, not_true_eq_false, not_false_eq_true] <;> rfl) d_X_count_62
    · have c_5 := xs_b1 c_5
      refine lv_iconst (v := 1) hx hb d_X_count_57 (by decide) ?_
      refine lv_goto (tgt := 62) hx hb d_X_count_58 (by decide) ?_
      exact xr_F hC hW hX hS (by omega) (by omega) (by simp only [xp_count, xs_b, c_1, c_2, c_3, c_4, c_5, xs_cn_scn, xs_nx_scn, xs_up_scn, xs_lt_scn, xs_q_scn, xs_ac_scn, xs_mk_scn, xs_ac_sac, xs_sac_sac, xs_nx_sg, xs_up_sg, xs_lt_sg, xs_cn_sg, xs_q_sg, if_true, if_false, reduceIte, Bool.false_eq_true, Bool.true_eq_false, and_true, true_and, and_false, false_and, or_true, true_or, or_false, false_or, not_true_eq_false, not_false_eq_true] <;> rfl) d_X_count_62
  refine lv_tableOut (tgt := 63) hx hb d_X_count_1 (by have q0 := lv_neT c_1 (a := 0) rfl; have q1 := lv_neT c_2 (a := 1) rfl; have q2 := lv_neT c_3 (a := 2) rfl; have q3 := lv_neT c_4 (a := 3) rfl; omega) (by decide) ?_
  refine lv_iload_n hx hb d_X_count_63 rfl (lv_at hl 1 rfl) ?_
  refine lv_iconst (v := 4) hx hb d_X_count_64 (by decide) ?_
  refine lv_icmp_lt (tgt := 78) hx hb d_X_count_65 (by decide) (fun c_6 => ?_) (fun c_6 => ?_)
  · refine lv_iconst (v := 0) hx hb d_X_count_78 (by decide) ?_
    refine xk_sX (rest := []) (c_X_checkArgument_0 l hsl g B o lim σ) gd_X_X_checkArgument hd_X_checkArgument hC hW hX hS trivial (by omega) (by omega) (by omega) (by omega) hl.1 rfl (Nat.le_of_ble_eq_true rfl) d_X_count_79 (fun ce9 q9 H locs hX hS e1 e2 e3 => ?_)
    exact xr_FX hC hxt hW hX hS (by omega) (by omega) e1 e2 e3 (k := 0) (v := 0) (by simp only [xp_count, xs_b, c_1, c_2, c_3, c_4, c_6, if_true, if_false, reduceIte, Bool.false_eq_true, Bool.true_eq_false, and_true, true_and, and_false, false_and, or_true, true_or, or_false, false_or, not_true_eq_false, not_false_eq_true] <;> rfl) rfl
  · refine lv_iload_n hx hb d_X_count_68 rfl (lv_at hl 1 rfl) ?_
    refine lv_bipush (v := 12) hx hb d_X_count_69 (by decide) ?_
    refine lv_icmp_ge (tgt := 78) hx hb d_X_count_71 (by decide) (fun c_7 => ?_) (fun c_7 => ?_)
    · refine lv_iconst (v := 0) hx hb d_X_count_78 (by decide) ?_
      refine xk_sX (rest := []) (c_X_checkArgument_0 l hsl g B o lim σ) gd_X_X_checkArgument hd_X_checkArgument hC hW hX hS trivial (by omega) (by omega) (by omega) (by omega) hl.1 rfl (Nat.le_of_ble_eq_true rfl) d_X_count_79 (fun ce9 q9 H locs hX hS e1 e2 e3 => ?_)
      exact xr_FX hC hxt hW hX hS (by omega) (by omega) e1 e2 e3 (k := 0) (v := 0) (by simp only [xp_count, xs_b, c_1, c_2, c_3, c_4, c_6, c_7, if_true, if_false, reduceIte, Bool.false_eq_true, Bool.true_eq_false, and_true, true_and, and_false, false_and, or_true, true_or, or_false, false_or, not_true_eq_false, not_false_eq_true] <;> rfl) rfl
    · refine lv_iconst (v := 1) hx hb d_X_count_74 (by decide) ?_
      refine lv_goto (tgt := 79) hx hb d_X_count_75 (by decide) ?_
      refine xk_sV (rest := []) (c_X_checkArgument_1 l g B o lim σ) gd_X_X_checkArgument hd_X_checkArgument hC hW hX hS trivial (by omega) (by omega) (by omega) (by omega) hl.1 rfl (Nat.le_of_ble_eq_true rfl) d_X_count_79 (fun H locs hX hS hF => ?_)
      refine lv_aload_n hx hb d_X_count_82 rfl (lv_at hl 0 rfl) ?_
      obtain ⟨v9, hXo, hXl⟩ := hX.1
      refine gf_X_X_accounts hx hb hts hown hK hXo rfl d_X_count_83 ?_
      have hx4 := xm_x4 c_6 c_7
      refine lv_iload_n hx hb d_X_count_86 rfl (lv_at hl 1 rfl) ?_
      refine lv_iconst (v := 4) hx hb d_X_count_87 (by decide) ?_
      refine lv_isub hx hb d_X_count_88 ?_
      refine xb_aald (v := o + 3 + 4 * (xs_ix (x - 4))) hx hb hK 0 rfl hX.2.1 hx4 rfl d_X_count_89 ?_
      refine gf_X_A_kept hx hb hts hown hK (hX.2.2.2.1 (xs_ix (x - 4)) (xs_ixl hx4)) rfl d_X_count_90 ?_
      obtain ⟨f9, hq9, hl9, hz9⟩ := hX.2.2.2.2.2.2.1 (xs_ix (x - 4)) (Nat.lt_of_lt_of_le (xs_ixl hx4) (by decide))
      refine gf_X_Q_size hx hb hts hown hK hq9.1 rfl d_X_count_93 ?_
      exact xr_F hC hW hX hS (by omega) (by omega) (by simp only [xp_count, xs_b, c_1, c_2, c_3, c_4, c_6, c_7, xs_cn_scn, xs_nx_scn, xs_up_scn, xs_lt_scn, xs_q_scn, xs_ac_scn, xs_mk_scn, xs_ac_sac, xs_sac_sac, xs_nx_sg, xs_up_sg, xs_lt_sg, xs_cn_sg, xs_q_sg, if_true, if_false, reduceIte, Bool.false_eq_true, Bool.true_eq_false, and_true, true_and, and_false, false_and, or_true, true_or, or_false, false_or, not_true_eq_false, not_false_eq_true] <;> rfl) d_X_count_96
end
section
/-! Constructors: heaps that grow by known cells. -/
def xw_O (U : State) : Prop := va_AO R_A U ∧ va_AO R_C U ∧ va_AO R_Z U
theorem xw_O.moved {u U : State} (hvm : u.vm.Alike U.vm) (h : xw_O u) : xw_O U := ⟨va_AO.moved hvm h.1, va_AO.moved hvm h.2.1, va_AO.moved hvm h.2.2⟩
def xn_P (g : xw_G) (sz : Nat) (av : List Value) (E : Heap → Prop) : Array Value → State → Prop := va_Pc av (fun U => U.heap.size = sz ∧ E U.heap ∧ xw_K g U ∧ xw_O U)
theorem xn_P.blind {g : xw_G} {sz : Nat} {av : List Value} {E : Heap → Prop} : FrameBlind (xn_P g sz av E) := fun a U f mk h => ⟨h.1, h.2.1, h.2.2.1, va_K.moved (u := U) (U := U.calling f mk a) (Vm.Alike.refl U.vm) h.2.2.2.1, h.2.2.2.2.moved (U := U.calling f mk a) (Vm.Alike.refl U.vm)⟩
def xc_N (l : Launch) (y : MethodName) (cd : Cond) (g : xw_G) (sz : Nat) (av : List Value) (E Post : Heap → Prop) (A : Nat → Prop) (fr lo mc ms : Nat) : Prop :=
  Met l y (cd :: xw_ws) { frames := fr, cells := mc, slots := ms, locals := lo } (xn_P g sz av E) (xb_V (fun t => Post t.heap) A) mc ms A
section XNH
variable {l : Launch} {y : MethodName} {own : String} {cc : ByteArray} {maxL : Nat} {g : xw_G} {sz : Nat} {av : List Value} {E Post : Heap → Prop} {A : Nat → Prop} {fr lo mc ms : Nat}
theorem xh_N (hy : plainName y.cls = true) (ho : y.cls = own) (hyn : y.name = "<init>") (hn : (lg_sl av).length ≤ maxL)
    (body : ∀ (p : Program) (e : Env) (R : Room) (s : State) (m : MethodId) (below : List Frame) (meth : Method) (c : Code) (ls : Array Slot), R.frames = fr → R.locals = lo → R.cells = mc → R.slots = ms → xh_C p s m av.toArray meth c own cc maxL none → meth.name = "<init>" → xw_K g s → xw_O s → s.heap.size = sz → E s.heap → lv_has ls maxL (lv_args 0 av) →
      W p l e R s m av.toArray below meth c s.heap [] 0 0 (MQ below (xb_V (fun t => Post t.heap) A) av.toArray s mc ms A) (F0 m 0 ls [])) : xc_N l y (Cond.code y cc maxL none) g sz av E Post A fr lo mc ms := by
  refine Met.ofW (cc := cc) (maxL := maxL) (ret := none) hy rfl ?_
  intro p e s m args below meth c s₁ B0 hml hv
  obtain ⟨rfl, hsz, hE, hK, hO⟩ := hv
  have hts := atoms_spec (ws := Cond.code y cc maxL none :: xw_ws) B0.pre
  have hown : s.vm.findClass own = some m.cls := ho ▸ findClass_of_methodNamed B0.named
  have hin : meth.name = "<init>" := (name_of_methodNamed B0.named B0.method).1.trans hyn
  have hl := lv_entry av (n := maxL) hn
  rw [lg_entry_eq]
  exact body p e _ s m below meth c _ rfl rfl rfl rfl ⟨B0.exec, B0.bytes, hml, B0.returns, hown, fun w h => hts w (List.mem_cons_of_mem _ h), B0.notSynchronized⟩ hin hK hO hsz hE hl
end XNH
section XNK
variable {p : Program} {l : Launch} {e : Env} {R : Room} {s : State} {m : MethodId} {args : Array Value} {below : List Frame} {meth : Method} {c : Code} {H H0 : Heap} {locs : List Loc} {cells slots : Nat} {Q : State → Prop}
variable {cc bytes : ByteArray} {pc nL maxL index fr lo mc ms sz : Nat} {ls : Array Slot} {rest st0 As : List Value} {own : String} {y : MethodName} {ret0 : Option FieldType} {g : xw_G} {b : Nat} {E Post : Heap → Prop} {A A0 : Nat → Prop}
theorem xk_N (hM : xc_N l y (Cond.code y bytes maxL none) g sz (.ref b :: As) E Post A fr lo mc ms) (hcd : Cond.code y bytes maxL none ∈ xw_ws) (hini : Cond.initialized y.cls ∈ xw_ws) (hlk : Cond.methodLink own index y ∈ xw_ws) (him : Cond.instanceMethod y ∈ xw_ws)
    (hyn : y.name = "<init>") (hd : y.cls ≠ "java/lang/invoke/MethodHandle" ∧ y.cls ≠ "java/lang/invoke/VarHandle" ∧ (parseMethodDescriptor y.desc).map (fun d => d.parameters.length) = some As.length)
    (hC : xh_C p s m args meth c own cc nL ret0) (hK : xw_K g s) (hO : xw_O s) (hS : va_S A0 H0 H locs) (hsz : H.size = sz) (hE : E H) (hA : ∀ q, A q → A0 q)
    (hRf : fr + 1 ≤ R.frames) (hRl : 8 + (maxL + 11) + lo ≤ R.locals) (hRc : cells + mc ≤ R.cells) (hRs : slots + ms ≤ R.slots)
    (hls : ls.size = nL) (hst : st0 = As.reverse ++ .ref b :: rest) (hrm : (rest.map fun v => v.category).sum ≤ 8) (hdg : decode cc pc = .ok (.invokespecial index, 3))
    (kk : ∀ (H1 : Heap) (locs1 : List Loc), Post H1 → (∀ q : Nat, q < sz → ¬ A q → H1[q]? = H[q]?) → va_S A0 H0 H1 locs1 → W p l e R s m args below meth c H1 locs1 (cells + mc) (slots + ms) Q (F0 m (pc + 3) ls rest)) : W p l e R s m args below meth c H locs cells slots Q (F0 m pc ls st0) := by
  obtain ⟨hx, hb, hml, -, hown, hts, -⟩ := hC
  subst hsz
  exact xb_callv (va_runI (As := As) (rest := rest) ⟨hx, hb, hml, hown, hts⟩ hM (cwI As.length hts (xw_good hcd) rfl rfl rfl (hts _ hini) (hts _ hlk) (hts _ him) hyn hd ⟨hRf, hRl⟩) ⟨xn_P.blind, fun U hU hw => ⟨rfl, by rw [hU], by rw [hU]; exact hE, va_K.moved hw.alike hK, hO.moved hw.alike⟩⟩ rfl rfl hls hst (lv_room hrm) hdg ⟨hRc, hRs⟩) hS hA hA
    (fun t locs1 _ hB hz hk hS1 => kk t.heap locs1 hB hk hS1)
theorem xr_N (hC : xh_C p s m args meth c own cc nL none) (hS : va_S A s.heap H locs) (hc : cells ≤ mc) (hs : slots ≤ ms) (hp : Post H) (hdg : decode cc pc = .ok (.return_, 1)) :
    W p l e R s m args below meth c H locs cells slots (MQ below (xb_V (fun t => Post t.heap) A) args s mc ms A) (F0 m pc ls []) := by
  obtain ⟨hx, hb, -, hr, -, -, hlk⟩ := hC
  exact W.widen hc hs (W.vret hx hb hr (fun t ht hw => ⟨⟨rfl, by show Post t.heap; rw [ht]; exact hp⟩, hS.F ht⟩) hS.2.2 hdg hlk)
end XNK
section XNI
variable {g : xw_G} {H H1 : Heap} {a n o : Nat}
theorem xn_1 {q : Nat × va_E} (h : va_at g.1 vwCl q H) (hk : ∀ p : Nat, q.1 ≤ p → p < q.1 + 1 → H1[p]? = H[p]?) : va_at g.1 vwCl q H1 := h.kept (hk q.1 (Nat.le_refl _) (Nat.lt_succ_self _))
/-- a queue just made -/
def xn_Q (g : xw_G) (a n : Nat) (H : Heap) : Prop := va_at g.1 vwCl (a, .inr (xi_Q, [.ref (a + 1), .int 0, .int 0])) H ∧ ∃ f : Nat → Option Nat, va_at g.1 vwCl (a + 1, .inl (g.2 2, n, xw_r f)) H
theorem xn_Q.k (h : xn_Q g a n H) (hk : ∀ p : Nat, a ≤ p → p < a + 2 → H1[p]? = H[p]?) : xn_Q g a n H1 := by
  obtain ⟨h1, f, h2⟩ := h
  exact ⟨xn_1 h1 (fun p q1 q2 => hk p (by (try dsimp only at q1 q2); omega) (by (try dsimp only at q1 q2); omega)), f, xn_1 h2 (fun p q1 q2 => hk p (by (try dsimp only at q1 q2); omega) (by (try dsimp only at q1 q2); omega))⟩
def xn_A (g : xw_G) (a : Nat) (H : Heap) : Prop := va_at g.1 vwCl (a, .inr (xi_A, [.ref (a + 1), .ref (a + 2), .int 0, .int 0])) H ∧ va_at g.1 vwCl (a + 1, .inl (g.2 3, 8, .inl (fun _ => 0))) H ∧ xn_Q g (a + 2) 4 H
theorem xn_A.k (h : xn_A g a H) (hk : ∀ p : Nat, a ≤ p → p < a + 4 → H1[p]? = H[p]?) : xn_A g a H1 := by
  obtain ⟨h1, h2, h3⟩ := h
  exact ⟨xn_1 h1 (fun p q1 q2 => hk p (by (try dsimp only at q1 q2); omega) (by (try dsimp only at q1 q2); omega)), xn_1 h2 (fun p q1 q2 => hk p (by (try dsimp only at q1 q2); omega) (by (try dsimp only at q1 q2); omega)), h3.k (fun p q1 q2 => hk p (by omega) (by omega))⟩
def xn_C (g : xw_G) (a : Nat) (H : Heap) : Prop := va_at g.1 vwCl (a, .inr (xi_C, [.ref (a + 1), .int 0, .int (-1), .int (-1), .int 0, .int 0, .int 0])) H ∧ xn_Q g (a + 1) 10 H
theorem xn_C.k (h : xn_C g a H) (hk : ∀ p : Nat, a ≤ p → p < a + 3 → H1[p]? = H[p]?) : xn_C g a H1 := by
  obtain ⟨h1, h3⟩ := h
  exact ⟨xn_1 h1 (fun p q1 q2 => hk p (by (try dsimp only at q1 q2); omega) (by (try dsimp only at q1 q2); omega)), h3.k (fun p q1 q2 => hk p (by omega) (by omega))⟩
theorem xn_arr0 {cA : ClassId} {f f' : Nat → Option Nat} (hf : ∀ j, j < n → f j = f' j) : vp_cell cA (n, xw_r f) = vp_cell cA (n, xw_r f') := by
  show arrV cA n (fun j => va_rf (f j)) = arrV cA n (fun j => va_rf (f' j))
  unfold arrV
  congr 2
  funext j
  show va_rf (f j.val) = va_rf (f' j.val)
  rw [hf j.val j.isLt]
/-- an array is its cells -/
theorem xn_arr {cA : ClassId} {f f' : Nat → Option Nat} (h : va_at g.1 vwCl (a, .inl (cA, n, xw_r f)) H) (hf : ∀ j, j < n → f j = f' j) : va_at g.1 vwCl (a, .inl (cA, n, xw_r f')) H := by
  have h1 : H[a]? = some (vp_cell cA (n, xw_r f)) := h
  show H[a]? = some (vp_cell cA (n, xw_r f'))
  rw [h1]
  congr 1
  exact xn_arr0 hf
/-- the object just made -/
def xn_X (g : xw_G) (o : Nat) (H : Heap) : Prop :=
  va_at g.1 vwCl (o, .inr (xi_X, [.ref (o + 2), .ref (o + 35), .ref (o + 54), .int 1, .int 4242, .null])) H ∧
  va_at g.1 vwCl (o + 2, .inl (g.2 0, 8, xw_r (fun i => some (o + 3 + 4 * i)))) H ∧ va_at g.1 vwCl (o + 35, .inl (g.2 1, 6, xw_r (fun i => some (o + 36 + 3 * i)))) H ∧
  (∀ i, i < 8 → xn_A g (o + 3 + 4 * i) H) ∧ (∀ i, i < 6 → xn_C g (o + 36 + 3 * i) H) ∧ xn_Q g (o + 54) 8 H
def xs_S0 : xs_S := (fun _ => (false, 0), fun _ _ => 0, fun _ => (0, -1, -1, 0, 0, false), fun _ => [], fun _ => 0, true, 4242, none)
theorem xn_X.R {B : Nat → Prop} (h : xn_X g o H) (hB : ∀ q, xw_B o q → B q) (hs : ∀ q, B q → q < H.size) : xw_R g B o xs_S0 H := by
  obtain ⟨h1, h2, h3, h4, h5, h6⟩ := h
  refine ⟨⟨.null, h1, rfl⟩, h2, h3, fun i hi => ?_, fun i hi => ?_, fun i hi => ?_, fun n hn => ?_, hB, hs⟩
  · have h7 := (h4 i hi).1
    have h8 : xs_qo i = 5 + 4 * i := by simp [xs_qo, hi]
    show va_at g.1 vwCl (o + 3 + 4 * i, .inr (xi_A, [.ref (o + 4 + 4 * i), .ref (o + xs_qo i), .int 0, .int 0])) H
    rw [h8]
    rw [show o + 4 + 4 * i = o + 3 + 4 * i + 1 by omega, show o + (5 + 4 * i) = o + 3 + 4 * i + 2 by omega]
    exact h7
  · have h7 := (h4 i hi).2.1
    rw [show o + 4 + 4 * i = o + 3 + 4 * i + 1 by omega]
    exact h7
  · have h7 := (h5 i hi).1
    have h8 : xs_qo (8 + i) = 37 + 3 * i := by
      have e1 : ¬ 8 + i < 8 := by omega
      have e2 : 8 + i < 14 := by omega
      simp only [xs_qo, e1, e2, if_true, if_false]
      omega
    show va_at g.1 vwCl (o + 36 + 3 * i, .inr (xi_C, [.ref (o + xs_qo (8 + i)), .int 0, .int (-1), .int (-1), .int 0, .int 0, .int 0])) H
    rw [h8, show o + (37 + 3 * i) = o + 36 + 3 * i + 1 by omega]
    exact h7
  · have hq : ∀ a r : Nat, a = o + xs_qo n → r = xs_rm n → xn_Q g a r H → xw_Q g B o n (xs_q xs_S0 n) (xs_lo xs_S0 n) H := by
      intro a r ha hr h9
      subst ha
      subst hr
      obtain ⟨q1, f, q2⟩ := h9
      exact ⟨f, ⟨q1, q2⟩, Nat.zero_le _, fun j z hj => by cases hj⟩
    by_cases e1 : n < 8
    · exact hq (o + 3 + 4 * n + 2) 4 (by simp only [xs_qo, e1, if_true]; omega) (by simp only [xs_rm, e1, if_true]) (h4 n e1).2.2
    · by_cases e2 : n < 14
      · have h7 := (h5 (n - 8) (by omega)).2
        exact hq (o + 36 + 3 * (n - 8) + 1) 10 (by simp only [xs_qo, e1, e2, if_true, if_false]; omega) (by simp only [xs_rm, e1, e2, if_true, if_false]) h7
      · exact hq (o + 54) 8 (by simp only [xs_qo, e1, e2, if_false]) (by simp only [xs_rm, e1, e2, if_false]) h6
end XNI
theorem c_Z_initN (l : Launch) (g : xw_G) (a sz : Nat) (k f r v t u : Int32) : xc_N l y_Z_init (Cond.code y_Z_init b_Z_init 7 none) g sz [.ref a, .int k, .int f, .int r, .int v, .int t, .int u] (fun H => va_at g.1 vwCl (a, .inr (xi_Z, xw_z0)) H) (fun H => H.size = sz ∧ va_at g.1 vwCl (a, .inr (xi_Z, xw_zF (k, f, r, v, t, u))) H) (fun q => q = a) 1 20 0 0 :=
  fun p e h1 h2 h3 s m args below hf happ hP hk => c_Z_init l g a sz k f r v t u p e h1 h2 h3 s m args below hf happ ⟨hP.1, hP.2.1, hP.2.2.1, hP.2.2.2.1⟩ hk
theorem xw_Snew9 {A : Nat → Prop} {H0 H H1 : Heap} {locs : List Loc} {k : Nat} (h : va_S A H0 H locs) (hk : H.size = k) (z : H1.size = k + 1) (oq : ∀ q : Nat, q < k → H1[q]? = H[q]?) : va_S A H0 H1 locs := by
  subst hk
  exact xw_Snew h z oq
theorem ci_Z : y_Z_init.cls ≠ "java/lang/invoke/MethodHandle" ∧ y_Z_init.cls ≠ "java/lang/invoke/VarHandle" ∧ (parseMethodDescriptor y_Z_init.desc).map (fun d => d.parameters.length) = some 6 := by decide +kernel
theorem ci_Q : y_Q_init.cls ≠ "java/lang/invoke/MethodHandle" ∧ y_Q_init.cls ≠ "java/lang/invoke/VarHandle" ∧ (parseMethodDescriptor y_Q_init.desc).map (fun d => d.parameters.length) = some 2 := by decide +kernel
theorem ci_A : y_A_init.cls ≠ "java/lang/invoke/MethodHandle" ∧ y_A_init.cls ≠ "java/lang/invoke/VarHandle" ∧ (parseMethodDescriptor y_A_init.desc).map (fun d => d.parameters.length) = some 1 := by decide +kernel
theorem ci_C : y_C_init.cls ≠ "java/lang/invoke/MethodHandle" ∧ y_C_init.cls ≠ "java/lang/invoke/VarHandle" ∧ (parseMethodDescriptor y_C_init.desc).map (fun d => d.parameters.length) = some 1 := by decide +kernel
theorem ci_X : y_X_init.cls ≠ "java/lang/invoke/MethodHandle" ∧ y_X_init.cls ≠ "java/lang/invoke/VarHandle" ∧ (parseMethodDescriptor y_X_init.desc).map (fun d => d.parameters.length) = some 0 := by decide +kernel
theorem ci_U : y_U_init.cls ≠ "java/lang/invoke/MethodHandle" ∧ y_U_init.cls ≠ "java/lang/invoke/VarHandle" ∧ (parseMethodDescriptor y_U_init.desc).map (fun d => d.parameters.length) = some 0 := by decide +kernel
set_option maxHeartbeats 4000000 in
set_option maxRecDepth 100000 in
theorem c_Q_init (l : Launch) (g : xw_G) (a z : Nat) (vs : List Value) (N : Nat) (hN : N < 1000) (hza : z < a) : xc_N l y_Q_init (Cond.code y_Q_init b_Q_init 4 none) g (a + 1) [.ref a, .int (nI N), .ref z] (fun H => va_at g.1 vwCl (a, .inr (xi_Q, [.null, .int 0, .int 0])) H ∧ va_at g.1 vwCl (z, .inr (xi_Z, vs)) H) (fun H => H.size = a + 2 ∧ xn_Q g a N H) (fun q => a ≤ q) 1 20 1 N := by
  refine xh_N (own := R_Q) (by decide) rfl rfl (Nat.le_of_ble_eq_true rfl) ?_
  intro p e R s m below meth c ls hRf hRl hRc hRs hC hin hK hO hsz hE hl
  obtain ⟨hx, hb, hml, hr, hown, hts, hlk⟩ := id hC
  have hS : va_S (fun q => a ≤ q) s.heap s.heap [] := va_S.rf
  have hl : lv_has ls 4 [(0, .ref a), (1, .int (nI N)), (2, .ref z)] := hl
  obtain ⟨hat, hz0⟩ := hE
  refine lv_aload_n hx hb d_Q_init_0 rfl (lv_at hl 0 rfl) ?_
  refine W.objInit hx hb hown (hts _ ml_Q_1) (hts _ im_obj) (hts _ cd_obj) rfl (by rw [hml]; exact hl.1) rfl d_Q_init_1 (by omega) (by rw [hRl]; exact Nat.le_of_ble_eq_true rfl) ?_
  refine W.eq (g2 := F0 m 4 ls []) rfl ?_
  refine lv_aload_n hx hb d_Q_init_4 rfl (lv_at hl 0 rfl) ?_
  refine lv_iload_n hx hb d_Q_init_5 rfl (lv_at hl 1 rfl) ?_
  refine xb_anew hx hb hown (hts _ cl_Q_7) (va_AO.use hO.2.2) hK 2 rfl (nI_pos (by omega)) (N' := N) (nI_clamp (by omega)) (by omega) (by omega) (by omega) d_Q_init_6 (fun H1 hn_1 hz hq => ?_)
  rw [hsz] at hn_1 hz hq ⊢
  have hS := xw_Snew9 hS hsz hz hq
  have hat := xn_1 hat (fun q h1 h2 => hq q (by (try dsimp only at h1 h2); omega))
  have hz0 := xn_1 hz0 (fun q h1 h2 => hq q (by (try dsimp only at h1 h2); omega))
  have hsz := hz
  have hn_1 : va_at g.1 vwCl (a + 1, .inl (g.2 2, N, xw_r (fun _ => none))) H1 := hn_1
  refine xb_putF hx hb hts xw_in_Q t_Q t_Q_ok n_Q hown hK (ci := xi_Q) rfl 0 (by decide) (hts _ lk_Q_9) rfl rfl hin rfl hat rfl rfl (Nat.le_of_ble_eq_true rfl) d_Q_init_9 (fun H lc hlc hat hz hq => ?_)
  have hat : va_at g.1 vwCl (a, .inr (xi_Q, [.ref (a + 1), .int 0, .int 0])) H := hat
  have hsz := hz.trans hsz
  have hS := xw_Sput hS hz hq hlc (by (try dsimp only); omega)
  have hz0 := xn_1 hz0 (fun q h1 h2 => hq q (by (try dsimp only at h1 h2); omega))
  have hn_1 := xn_1 hn_1 (fun q h1 h2 => hq q (by (try dsimp only at h1 h2); omega))
  refine lv_iconst (v := 0) hx hb d_Q_init_12 (by decide) ?_
  refine lv_istore_n (lv' := [(3, .int 0), (0, .ref a), (1, .int (nI N)), (2, .ref z)]) hx hb d_Q_init_13 rfl hl (by decide) rfl (fun ls hl => ?_)
  have loop : ∀ (n i : Nat) (f : Nat → Option Nat) (H : Heap) (locs : List Loc) (ls : Array Slot), i + n = N → va_at g.1 vwCl (a, .inr (xi_Q, [.ref (a + 1), .int 0, .int 0])) H → va_at g.1 vwCl (a + 1, .inl (g.2 2, N, xw_r f)) H → va_at g.1 vwCl (z, .inr (xi_Z, vs)) H → H.size = a + 2 → va_S (fun q => a ≤ q) s.heap H locs → lv_has ls 4 [(0, .ref a), (1, .int (nI N)), (2, .ref z), (3, .int (nI i))] → W p l e R s m [.ref a, .int (nI N), .ref z].toArray below meth c H locs (0 + 1) (0 + N) (MQ below (xb_V (fun t => t.heap.size = a + 2 ∧ xn_Q g a N t.heap) (fun q => a ≤ q)) [.ref a, .int (nI N), .ref z].toArray s 1 N (fun q => a ≤ q)) (F0 m 14 ls []) := by
    intro n
    induction n with
    | zero =>
      intro i f H locs ls hi hat harr hz0 hsz hS hl
      refine lv_iload_n hx hb d_Q_init_14 rfl (lv_at hl 3 rfl) ?_
      refine lv_iload_n hx hb d_Q_init_15 rfl (lv_at hl 1 rfl) ?_
      refine lv_icmp_ge (tgt := 32) hx hb d_Q_init_16 (by decide) (fun c_2 => ?_) (fun c_2 => absurd (nI_le (show N ≤ i by omega) (show i < 2 ^ 31 by omega)) c_2)
      refine lv_aload_n hx hb d_Q_init_32 rfl (lv_at hl 0 rfl) ?_
      refine lv_iconst (v := 0) hx hb d_Q_init_33 (by decide) ?_
      refine xb_put hx hb hts xw_in_Q t_Q t_Q_ok n_Q hown hK (ci := xi_Q) rfl 1 (by decide) (hts _ lk_Q_15) rfl rfl hat rfl rfl (Nat.le_of_ble_eq_true rfl) d_Q_init_34 (fun H lc hlc hat hz hq => ?_)
      have hat : va_at g.1 vwCl (a, .inr (xi_Q, [.ref (a + 1), .int 0, .int 0])) H := hat
      have hsz := hz.trans hsz
      have hS := xw_Sput hS hz hq hlc (by (try dsimp only); omega)
      have harr := xn_1 harr (fun q h1 h2 => hq q (by (try dsimp only at h1 h2); omega))
      have hz0 := xn_1 hz0 (fun q h1 h2 => hq q (by (try dsimp only at h1 h2); omega))
      refine lv_aload_n hx hb d_Q_init_37 rfl (lv_at hl 0 rfl) ?_
      refine lv_iconst (v := 0) hx hb d_Q_init_38 (by decide) ?_
      refine xb_put hx hb hts xw_in_Q t_Q t_Q_ok n_Q hown hK (ci := xi_Q) rfl 2 (by decide) (hts _ lk_Q_19) rfl rfl hat rfl rfl (Nat.le_of_ble_eq_true rfl) d_Q_init_39 (fun H lc hlc hat hz hq => ?_)
      have hat : va_at g.1 vwCl (a, .inr (xi_Q, [.ref (a + 1), .int 0, .int 0])) H := hat
      have hsz := hz.trans hsz
      have hS := xw_Sput hS hz hq hlc (by (try dsimp only); omega)
      have harr := xn_1 harr (fun q h1 h2 => hq q (by (try dsimp only at h1 h2); omega))
      have hz0 := xn_1 hz0 (fun q h1 h2 => hq q (by (try dsimp only at h1 h2); omega))
      exact xr_N (Post := fun H => H.size = a + 2 ∧ xn_Q g a N H) hC hS (by omega) (by omega) ⟨hsz, hat, _, harr⟩ d_Q_init_42
    | succ n ih =>
      intro i f H locs ls hi hat harr hz0 hsz hS hl
      refine lv_iload_n hx hb d_Q_init_14 rfl (lv_at hl 3 rfl) ?_
      refine lv_iload_n hx hb d_Q_init_15 rfl (lv_at hl 1 rfl) ?_
      refine lv_icmp_ge (tgt := 32) hx hb d_Q_init_16 (by decide) (fun c_3 => absurd c_3 (nI_ge (show i < N by omega) (by omega))) (fun c_3 => ?_)
      refine lv_aload_n hx hb d_Q_init_19 rfl (lv_at hl 0 rfl) ?_
      refine xb_get hx hb hts xw_in_Q hown hK (ci := xi_Q) rfl 0 (by decide) (hts _ lk_Q_9) rfl hat rfl d_Q_init_20 ?_
      refine lv_iload_n hx hb d_Q_init_23 rfl (lv_at hl 3 rfl) ?_
      refine lv_aload_n hx hb d_Q_init_24 rfl (lv_at hl 2 rfl) ?_
      refine xb_aast hx hb hK 2 2 rfl rfl harr hz0 (vp_in_nI (show i < N by omega) (by omega)) d_Q_init_25 (fun H lc hlc harr hz hq => ?_)
      have hsz := hz.trans hsz
      have hS := xw_Sput hS hz hq hlc (by (try dsimp only); omega)
      have hat := xn_1 hat (fun q h1 h2 => hq q (by (try dsimp only at h1 h2); omega))
      have hz0 := xn_1 hz0 (fun q h1 h2 => hq q (by (try dsimp only at h1 h2); omega))
      refine lv_iinc (v := nI (i + 1)) (lv' := [(3, .int (nI (i + 1))), (0, .ref a), (1, .int (nI N)), (2, .ref z)]) hx hb d_Q_init_26 hl (k := 3) rfl (nI_1 _) (by decide) rfl (fun ls hl => ?_)
      refine lv_goto (tgt := 14) hx hb d_Q_init_29 (by decide) ?_
      exact ih (i + 1) _ _ _ ls (by omega) hat harr hz0 hsz hS (lv_sub hl [1, 2, 3, 0] rfl)
  exact loop N 0 _ _ _ ls (by omega) hat hn_1 hz0 hsz hS (lv_sub hl [1, 2, 3, 0] rfl)
set_option maxHeartbeats 4000000 in
set_option maxRecDepth 100000 in
theorem c_A_init (l : Launch) (g : xw_G) (a z : Nat) (vs : List Value) (hza : z < a) : xc_N l y_A_init (Cond.code y_A_init b_A_init 2 none) g (a + 1) [.ref a, .ref z] (fun H => va_at g.1 vwCl (a, .inr (xi_A, [.null, .null, .int 0, .int 0])) H ∧ va_at g.1 vwCl (z, .inr (xi_Z, vs)) H) (fun H => H.size = a + 4 ∧ xn_A g a H) (fun q => a ≤ q) 2 50 3 15 := by
  refine xh_N (own := R_A) (by decide) rfl rfl (Nat.le_of_ble_eq_true rfl) ?_
  intro p e R s m below meth c ls hRf hRl hRc hRs hC hin hK hO hsz hE hl
  obtain ⟨hx, hb, hml, hr, hown, hts, hlk⟩ := id hC
  have hS : va_S (fun q => a ≤ q) s.heap s.heap [] := va_S.rf
  have hl : lv_has ls 2 [(0, .ref a), (1, .ref z)] := hl
  obtain ⟨hat, hz0⟩ := hE
  refine lv_aload_n hx hb d_A_init_0 rfl (lv_at hl 0 rfl) ?_
  refine W.objInit hx hb hown (hts _ ml_A_3) (hts _ im_obj) (hts _ cd_obj) rfl (by rw [hml]; exact hl.1) rfl d_A_init_1 (by omega) (by rw [hRl]; exact Nat.le_of_ble_eq_true rfl) ?_
  refine W.eq (g2 := F0 m 4 ls []) rfl ?_
  refine lv_aload_n hx hb d_A_init_4 rfl (lv_at hl 0 rfl) ?_
  refine lv_bipush (v := 8) hx hb d_A_init_5 (by decide) ?_
  refine xb_newa hx hb (hts _ ar_int) hK 3 rfl (by decide) (N' := 8) rfl (by decide) (by omega) (by omega) d_A_init_7 (fun H1 hn_1 hz hq => ?_)
  rw [hsz] at hn_1 hz hq ⊢
  have hS := xw_Snew9 hS hsz hz hq
  have hat := xn_1 hat (fun q h1 h2 => hq q (by (try dsimp only at h1 h2); omega))
  have hz0 := xn_1 hz0 (fun q h1 h2 => hq q (by (try dsimp only at h1 h2); omega))
  have hsz := hz
  have hn_1 : va_at g.1 vwCl (a + 1, .inl (g.2 3, 8, .inl (fun _ => 0))) H1 := hn_1
  refine xb_putF hx hb hts xw_in_A t_A t_A_ok n_A hown hK (ci := xi_A) rfl 0 (by decide) (hts _ lk_A_9) rfl rfl hin rfl hat rfl rfl (Nat.le_of_ble_eq_true rfl) d_A_init_9 (fun H lc hlc hat hz hq => ?_)
  have hat : va_at g.1 vwCl (a, .inr (xi_A, [.ref (a + 1), .null, .int 0, .int 0])) H := hat
  have hsz := hz.trans hsz
  have hS := xw_Sput hS hz hq hlc (by (try dsimp only); omega)
  have hz0 := xn_1 hz0 (fun q h1 h2 => hq q (by (try dsimp only at h1 h2); omega))
  have hn_1 := xn_1 hn_1 (fun q h1 h2 => hq q (by (try dsimp only at h1 h2); omega))
  refine lv_aload_n hx hb d_A_init_12 rfl (lv_at hl 0 rfl) ?_
  refine xb_new hx hb hts xw_in_Q t_Q t_Q_ok hown (hts _ cl_A_15) (hts _ is_Q) (hts _ ii_Q) hK (ci := xi_Q) rfl (fs := [.null, .int 0, .int 0]) (fun j hj => by rcases (show j = 0 ∨ j = 1 ∨ j = 2 by omega) with rfl | rfl | rfl <;> rfl) (by omega) (by omega) d_A_init_13 (fun H1 hn_2 hz hq => ?_)
  rw [hsz] at hn_2 hz hq ⊢
  have hS := xw_Snew9 hS hsz hz hq
  have hat := xn_1 hat (fun q h1 h2 => hq q (by (try dsimp only at h1 h2); omega))
  have hz0 := xn_1 hz0 (fun q h1 h2 => hq q (by (try dsimp only at h1 h2); omega))
  have hn_1 := xn_1 hn_1 (fun q h1 h2 => hq q (by (try dsimp only at h1 h2); omega))
  have hsz := hz
  have hn_2 : va_at g.1 vwCl (a + 2, .inr (xi_Q, [.null, .int 0, .int 0])) H1 := hn_2
  refine lv_dup hx hb d_A_init_16 rfl ?_
  refine lv_iconst (v := 4) hx hb d_A_init_17 (by decide) ?_
  refine lv_aload_n hx hb d_A_init_18 rfl (lv_at hl 1 rfl) ?_
  refine xk_N (rest := [.ref (a + 2), .ref a]) (c_Q_init l g (a + 2) (z) vs 4 (by decide) (by omega)) cd_Q_init ii_Q ml_A_17 im_Q_init rfl ci_Q hC hK hO hS hsz ⟨hn_2, hz0⟩ (fun q hq => by (try dsimp only at hq); (try dsimp only); omega) (by omega) (by rw [hRl]; exact Nat.le_of_ble_eq_true rfl) (by omega) (by omega) hl.1 rfl (Nat.le_of_ble_eq_true rfl) d_A_init_19 (fun H locs hpost hq hS => ?_)
  have hat := xn_1 hat (fun q h1 h2 => hq q (by (try dsimp only at h1 h2); omega) (by (try dsimp only at h1 h2); (try dsimp only); omega))
  have hz0 := xn_1 hz0 (fun q h1 h2 => hq q (by (try dsimp only at h1 h2); omega) (by (try dsimp only at h1 h2); (try dsimp only); omega))
  have hn_1 := xn_1 hn_1 (fun q h1 h2 => hq q (by (try dsimp only at h1 h2); omega) (by (try dsimp only at h1 h2); (try dsimp only); omega))
  have hsz := hpost.1
  have hn_2 := hpost.2
  have hsz : H.size = a + 4 := by omega
  refine xb_putF hx hb hts xw_in_A t_A t_A_ok n_A hown hK (ci := xi_A) rfl 1 (by decide) (hts _ lk_A_20) rfl rfl hin rfl hat rfl rfl (Nat.le_of_ble_eq_true rfl) d_A_init_22 (fun H lc hlc hat hz hq => ?_)
  have hat : va_at g.1 vwCl (a, .inr (xi_A, [.ref (a + 1), .ref (a + 2), .int 0, .int 0])) H := hat
  have hsz := hz.trans hsz
  have hS := xw_Sput hS hz hq hlc (by (try dsimp only); omega)
  have hz0 := xn_1 hz0 (fun q h1 h2 => hq q (by (try dsimp only at h1 h2); omega))
  have hn_1 := xn_1 hn_1 (fun q h1 h2 => hq q (by (try dsimp only at h1 h2); omega))
  have hn_2 := xn_Q.k hn_2 (fun q h1 h2 => hq q (by (try dsimp only at h1 h2); omega))
  refine lv_aload_n hx hb d_A_init_25 rfl (lv_at hl 0 rfl) ?_
  refine lv_iconst (v := 0) hx hb d_A_init_26 (by decide) ?_
  refine xb_put hx hb hts xw_in_A t_A t_A_ok n_A hown hK (ci := xi_A) rfl 2 (by decide) (hts _ lk_A_24) rfl rfl hat rfl rfl (Nat.le_of_ble_eq_true rfl) d_A_init_27 (fun H lc hlc hat hz hq => ?_)
  have hat : va_at g.1 vwCl (a, .inr (xi_A, [.ref (a + 1), .ref (a + 2), .int 0, .int 0])) H := hat
  have hsz := hz.trans hsz
  have hS := xw_Sput hS hz hq hlc (by (try dsimp only); omega)
  have hz0 := xn_1 hz0 (fun q h1 h2 => hq q (by (try dsimp only at h1 h2); omega))
  have hn_1 := xn_1 hn_1 (fun q h1 h2 => hq q (by (try dsimp only at h1 h2); omega))
  have hn_2 := xn_Q.k hn_2 (fun q h1 h2 => hq q (by (try dsimp only at h1 h2); omega))
  refine lv_aload_n hx hb d_A_init_30 rfl (lv_at hl 0 rfl) ?_
  refine lv_iconst (v := 0) hx hb d_A_init_31 (by decide) ?_
  refine xb_put hx hb hts xw_in_A t_A t_A_ok n_A hown hK (ci := xi_A) rfl 3 (by decide) (hts _ lk_A_28) rfl rfl hat rfl rfl (Nat.le_of_ble_eq_true rfl) d_A_init_32 (fun H lc hlc hat hz hq => ?_)
  have hat : va_at g.1 vwCl (a, .inr (xi_A, [.ref (a + 1), .ref (a + 2), .int 0, .int 0])) H := hat
  have hsz := hz.trans hsz
  have hS := xw_Sput hS hz hq hlc (by (try dsimp only); omega)
  have hz0 := xn_1 hz0 (fun q h1 h2 => hq q (by (try dsimp only at h1 h2); omega))
  have hn_1 := xn_1 hn_1 (fun q h1 h2 => hq q (by (try dsimp only at h1 h2); omega))
  have hn_2 := xn_Q.k hn_2 (fun q h1 h2 => hq q (by (try dsimp only at h1 h2); omega))
  exact xr_N (Post := fun H => H.size = a + 4 ∧ xn_A g a H) hC hS (by omega) (by omega) ⟨hsz, hat, hn_1, hn_2⟩ d_A_init_35
set_option maxHeartbeats 4000000 in
set_option maxRecDepth 100000 in
theorem c_C_init (l : Launch) (g : xw_G) (a z : Nat) (vs : List Value) (hza : z < a) : xc_N l y_C_init (Cond.code y_C_init b_C_init 2 none) g (a + 1) [.ref a, .ref z] (fun H => va_at g.1 vwCl (a, .inr (xi_C, [.null, .int 0, .int 0, .int 0, .int 0, .int 0, .int 0])) H ∧ va_at g.1 vwCl (z, .inr (xi_Z, vs)) H) (fun H => H.size = a + 3 ∧ xn_C g a H) (fun q => a ≤ q) 2 50 2 13 := by
  refine xh_N (own := R_C) (by decide) rfl rfl (Nat.le_of_ble_eq_true rfl) ?_
  intro p e R s m below meth c ls hRf hRl hRc hRs hC hin hK hO hsz hE hl
  obtain ⟨hx, hb, hml, hr, hown, hts, hlk⟩ := id hC
  have hS : va_S (fun q => a ≤ q) s.heap s.heap [] := va_S.rf
  have hl : lv_has ls 2 [(0, .ref a), (1, .ref z)] := hl
  obtain ⟨hat, hz0⟩ := hE
  refine lv_aload_n hx hb d_C_init_0 rfl (lv_at hl 0 rfl) ?_
  refine W.objInit hx hb hown (hts _ ml_C_3) (hts _ im_obj) (hts _ cd_obj) rfl (by rw [hml]; exact hl.1) rfl d_C_init_1 (by omega) (by rw [hRl]; exact Nat.le_of_ble_eq_true rfl) ?_
  refine W.eq (g2 := F0 m 4 ls []) rfl ?_
  refine lv_aload_n hx hb d_C_init_4 rfl (lv_at hl 0 rfl) ?_
  refine xb_new hx hb hts xw_in_Q t_Q t_Q_ok hown (hts _ cl_C_9) (hts _ is_Q) (hts _ ii_Q) hK (ci := xi_Q) rfl (fs := [.null, .int 0, .int 0]) (fun j hj => by rcases (show j = 0 ∨ j = 1 ∨ j = 2 by omega) with rfl | rfl | rfl <;> rfl) (by omega) (by omega) d_C_init_5 (fun H1 hn_1 hz hq => ?_)
  rw [hsz] at hn_1 hz hq ⊢
  have hS := xw_Snew9 hS hsz hz hq
  have hat := xn_1 hat (fun q h1 h2 => hq q (by (try dsimp only at h1 h2); omega))
  have hz0 := xn_1 hz0 (fun q h1 h2 => hq q (by (try dsimp only at h1 h2); omega))
  have hsz := hz
  have hn_1 : va_at g.1 vwCl (a + 1, .inr (xi_Q, [.null, .int 0, .int 0])) H1 := hn_1
  refine lv_dup hx hb d_C_init_8 rfl ?_
  refine lv_bipush (v := 10) hx hb d_C_init_9 (by decide) ?_
  refine lv_aload_n hx hb d_C_init_11 rfl (lv_at hl 1 rfl) ?_
  refine xk_N (rest := [.ref (a + 1), .ref a]) (c_Q_init l g (a + 1) (z) vs 10 (by decide) (by omega)) cd_Q_init ii_Q ml_C_11 im_Q_init rfl ci_Q hC hK hO hS hsz ⟨hn_1, hz0⟩ (fun q hq => by (try dsimp only at hq); (try dsimp only); omega) (by omega) (by rw [hRl]; exact Nat.le_of_ble_eq_true rfl) (by omega) (by omega) hl.1 rfl (Nat.le_of_ble_eq_true rfl) d_C_init_12 (fun H locs hpost hq hS => ?_)
  have hat := xn_1 hat (fun q h1 h2 => hq q (by (try dsimp only at h1 h2); omega) (by (try dsimp only at h1 h2); (try dsimp only); omega))
  have hz0 := xn_1 hz0 (fun q h1 h2 => hq q (by (try dsimp only at h1 h2); omega) (by (try dsimp only at h1 h2); (try dsimp only); omega))
  have hsz := hpost.1
  have hn_1 := hpost.2
  have hsz : H.size = a + 3 := by omega
  refine xb_putF hx hb hts xw_in_C t_C t_C_ok n_C hown hK (ci := xi_C) rfl 0 (by decide) (hts _ lk_C_14) rfl rfl hin rfl hat rfl rfl (Nat.le_of_ble_eq_true rfl) d_C_init_15 (fun H lc hlc hat hz hq => ?_)
  have hat : va_at g.1 vwCl (a, .inr (xi_C, [.ref (a + 1), .int 0, .int 0, .int 0, .int 0, .int 0, .int 0])) H := hat
  have hsz := hz.trans hsz
  have hS := xw_Sput hS hz hq hlc (by (try dsimp only); omega)
  have hz0 := xn_1 hz0 (fun q h1 h2 => hq q (by (try dsimp only at h1 h2); omega))
  have hn_1 := xn_Q.k hn_1 (fun q h1 h2 => hq q (by (try dsimp only at h1 h2); omega))
  refine lv_aload_n hx hb d_C_init_18 rfl (lv_at hl 0 rfl) ?_
  refine lv_iconst (v := 0) hx hb d_C_init_19 (by decide) ?_
  refine xb_put hx hb hts xw_in_C t_C t_C_ok n_C hown hK (ci := xi_C) rfl 1 (by decide) (hts _ lk_C_20) rfl rfl hat rfl rfl (Nat.le_of_ble_eq_true rfl) d_C_init_20 (fun H lc hlc hat hz hq => ?_)
  have hat : va_at g.1 vwCl (a, .inr (xi_C, [.ref (a + 1), .int 0, .int 0, .int 0, .int 0, .int 0, .int 0])) H := hat
  have hsz := hz.trans hsz
  have hS := xw_Sput hS hz hq hlc (by (try dsimp only); omega)
  have hz0 := xn_1 hz0 (fun q h1 h2 => hq q (by (try dsimp only at h1 h2); omega))
  have hn_1 := xn_Q.k hn_1 (fun q h1 h2 => hq q (by (try dsimp only at h1 h2); omega))
  refine lv_aload_n hx hb d_C_init_23 rfl (lv_at hl 0 rfl) ?_
  refine lv_iconst (v := (-1)) hx hb d_C_init_24 (by decide) ?_
  refine xb_put hx hb hts xw_in_C t_C t_C_ok n_C hown hK (ci := xi_C) rfl 2 (by decide) (hts _ lk_C_24) rfl rfl hat rfl rfl (Nat.le_of_ble_eq_true rfl) d_C_init_25 (fun H lc hlc hat hz hq => ?_)
  have hat : va_at g.1 vwCl (a, .inr (xi_C, [.ref (a + 1), .int 0, .int (-1), .int 0, .int 0, .int 0, .int 0])) H := hat
  have hsz := hz.trans hsz
  have hS := xw_Sput hS hz hq hlc (by (try dsimp only); omega)
  have hz0 := xn_1 hz0 (fun q h1 h2 => hq q (by (try dsimp only at h1 h2); omega))
  have hn_1 := xn_Q.k hn_1 (fun q h1 h2 => hq q (by (try dsimp only at h1 h2); omega))
  refine lv_aload_n hx hb d_C_init_28 rfl (lv_at hl 0 rfl) ?_
  refine lv_iconst (v := (-1)) hx hb d_C_init_29 (by decide) ?_
  refine xb_put hx hb hts xw_in_C t_C t_C_ok n_C hown hK (ci := xi_C) rfl 3 (by decide) (hts _ lk_C_27) rfl rfl hat rfl rfl (Nat.le_of_ble_eq_true rfl) d_C_init_30 (fun H lc hlc hat hz hq => ?_)
  have hat : va_at g.1 vwCl (a, .inr (xi_C, [.ref (a + 1), .int 0, .int (-1), .int (-1), .int 0, .int 0, .int 0])) H := hat
  have hsz := hz.trans hsz
  have hS := xw_Sput hS hz hq hlc (by (try dsimp only); omega)
  have hz0 := xn_1 hz0 (fun q h1 h2 => hq q (by (try dsimp only at h1 h2); omega))
  have hn_1 := xn_Q.k hn_1 (fun q h1 h2 => hq q (by (try dsimp only at h1 h2); omega))
  refine lv_aload_n hx hb d_C_init_33 rfl (lv_at hl 0 rfl) ?_
  refine lv_iconst (v := 0) hx hb d_C_init_34 (by decide) ?_
  refine xb_put hx hb hts xw_in_C t_C t_C_ok n_C hown hK (ci := xi_C) rfl 4 (by decide) (hts _ lk_C_30) rfl rfl hat rfl rfl (Nat.le_of_ble_eq_true rfl) d_C_init_35 (fun H lc hlc hat hz hq => ?_)
  have hat : va_at g.1 vwCl (a, .inr (xi_C, [.ref (a + 1), .int 0, .int (-1), .int (-1), .int 0, .int 0, .int 0])) H := hat
  have hsz := hz.trans hsz
  have hS := xw_Sput hS hz hq hlc (by (try dsimp only); omega)
  have hz0 := xn_1 hz0 (fun q h1 h2 => hq q (by (try dsimp only at h1 h2); omega))
  have hn_1 := xn_Q.k hn_1 (fun q h1 h2 => hq q (by (try dsimp only at h1 h2); omega))
  refine lv_aload_n hx hb d_C_init_38 rfl (lv_at hl 0 rfl) ?_
  refine lv_iconst (v := 0) hx hb d_C_init_39 (by decide) ?_
  refine xb_put hx hb hts xw_in_C t_C t_C_ok n_C hown hK (ci := xi_C) rfl 5 (by decide) (hts _ lk_C_33) rfl rfl hat rfl rfl (Nat.le_of_ble_eq_true rfl) d_C_init_40 (fun H lc hlc hat hz hq => ?_)
  have hat : va_at g.1 vwCl (a, .inr (xi_C, [.ref (a + 1), .int 0, .int (-1), .int (-1), .int 0, .int 0, .int 0])) H := hat
  have hsz := hz.trans hsz
  have hS := xw_Sput hS hz hq hlc (by (try dsimp only); omega)
  have hz0 := xn_1 hz0 (fun q h1 h2 => hq q (by (try dsimp only at h1 h2); omega))
  have hn_1 := xn_Q.k hn_1 (fun q h1 h2 => hq q (by (try dsimp only at h1 h2); omega))
  refine lv_aload_n hx hb d_C_init_43 rfl (lv_at hl 0 rfl) ?_
  refine lv_iconst (v := 0) hx hb d_C_init_44 (by decide) ?_
  refine xb_put hx hb hts xw_in_C t_C t_C_ok n_C hown hK (ci := xi_C) rfl 6 (by decide) (hts _ lk_C_36) rfl rfl hat rfl rfl (Nat.le_of_ble_eq_true rfl) d_C_init_45 (fun H lc hlc hat hz hq => ?_)
  have hat : va_at g.1 vwCl (a, .inr (xi_C, [.ref (a + 1), .int 0, .int (-1), .int (-1), .int 0, .int 0, .int 0])) H := hat
  have hsz := hz.trans hsz
  have hS := xw_Sput hS hz hq hlc (by (try dsimp only); omega)
  have hz0 := xn_1 hz0 (fun q h1 h2 => hq q (by (try dsimp only at h1 h2); omega))
  have hn_1 := xn_Q.k hn_1 (fun q h1 h2 => hq q (by (try dsimp only at h1 h2); omega))
  exact xr_N (Post := fun H => H.size = a + 3 ∧ xn_C g a H) hC hS (by omega) (by omega) ⟨hsz, hat, hn_1⟩ d_C_init_48
theorem xn_up {f : Nat → Option Nat} {i j k v : Nat} {ad : Nat → Nat} (hf : ∀ j, j < i → f j = some (ad j)) (hj : j < i + 1) (hk : k = i) (hv : v = ad i) : va_up f k (some v) j = some (ad j) := by
  subst hk
  subst hv
  by_cases e : j = k
  · subst e
    exact va_up_self _ _ _
  · rw [va_up_ne _ _ e]
    exact hf j (by omega)
set_option maxHeartbeats 4000000 in
set_option maxRecDepth 100000 in
theorem c_X_init (l : Launch) (g : xw_G) (o : Nat) : xc_N l y_X_init (Cond.code y_X_init b_X_init 3 none) g (o + 1) [.ref o] (fun H => va_at g.1 vwCl (o, .inr (xi_X, [.null, .null, .null, .int 0, .int 0, .null])) H) (fun H => H.size = o + 56 ∧ xn_X g o H) (fun q => o ≤ q) 3 90 55 303 := by
  refine xh_N (own := R_X) (by decide) rfl rfl (Nat.le_of_ble_eq_true rfl) ?_
  intro p e R s m below meth c ls hRf hRl hRc hRs hC hin hK hO hsz hE hl
  obtain ⟨hx, hb, hml, hr, hown, hts, hlk⟩ := id hC
  have hS : va_S (fun q => o ≤ q) s.heap s.heap [] := va_S.rf
  have hl : lv_has ls 3 [(0, .ref o)] := hl
  have hat := hE
  refine lv_aload_n hx hb d_X_init_0 rfl (lv_at hl 0 rfl) ?_
  refine W.objInit hx hb hown (hts _ ml_X_1) (hts _ im_obj) (hts _ cd_obj) rfl (by rw [hml]; exact hl.1) rfl d_X_init_1 (by omega) (by rw [hRl]; exact Nat.le_of_ble_eq_true rfl) ?_
  refine W.eq (g2 := F0 m 4 ls []) rfl ?_
  refine xb_new hx hb hts xw_in_Z t_Z t_Z_ok hown (hts _ cl_X_7) (hts _ is_Z) (hts _ ii_Z) hK (ci := xi_Z) rfl (fs := [.int 0, .int 0, .int 0, .int 0, .int 0, .int 0]) (fun j hj => by rcases (show j = 0 ∨ j = 1 ∨ j = 2 ∨ j = 3 ∨ j = 4 ∨ j = 5 by omega) with rfl | rfl | rfl | rfl | rfl | rfl <;> rfl) (by omega) (by omega) d_X_init_4 (fun H1 hn_1 hz hq => ?_)
  rw [hsz] at hn_1 hz hq ⊢
  have hS := xw_Snew9 hS hsz hz hq
  have hat := xn_1 hat (fun q h1 h2 => hq q (by (try dsimp only at h1 h2); omega))
  have hsz := hz
  have hn_1 : va_at g.1 vwCl (o + 1, .inr (xi_Z, [.int 0, .int 0, .int 0, .int 0, .int 0, .int 0])) H1 := hn_1
  refine lv_dup hx hb d_X_init_7 rfl ?_
  refine lv_iconst (v := 0) hx hb d_X_init_8 (by decide) ?_
  refine lv_iconst (v := (-1)) hx hb d_X_init_9 (by decide) ?_
  refine lv_iconst (v := (-1)) hx hb d_X_init_10 (by decide) ?_
  refine lv_iconst (v := 0) hx hb d_X_init_11 (by decide) ?_
  refine lv_iconst (v := (-1)) hx hb d_X_init_12 (by decide) ?_
  refine lv_iconst (v := (-1)) hx hb d_X_init_13 (by decide) ?_
  refine xk_N (rest := [.ref (o + 1)]) (c_Z_initN l g (o + 1) (o + 2) 0 (-1) (-1) 0 (-1) (-1)) cd_Z_init ii_Z ml_X_11 im_Z_init rfl ci_Z hC hK hO hS hsz hn_1 (fun q hq => by (try dsimp only at hq); (try dsimp only); omega) (by omega) (by rw [hRl]; exact Nat.le_of_ble_eq_true rfl) (by omega) (by omega) hl.1 rfl (Nat.le_of_ble_eq_true rfl) d_X_init_14 (fun H locs hpost hq hS => ?_)
  have hat := xn_1 hat (fun q h1 h2 => hq q (by (try dsimp only at h1 h2); omega) (by (try dsimp only at h1 h2); (try dsimp only); omega))
  have hsz := hpost.1
  have hn_1 := hpost.2
  have hz0 := hn_1
  have hsz : H.size = o + 2 := by omega
  refine lv_astore_n (lv' := [(1, .ref (o + 1)), (0, .ref o)]) hx hb d_X_init_17 rfl hl (by decide) rfl (fun ls hl => ?_)
  refine lv_aload_n hx hb d_X_init_18 rfl (lv_at hl 1 rfl) ?_
  refine lv_bipush (v := 8) hx hb d_X_init_19 (by decide) ?_
  refine xb_anew hx hb hown (hts _ cl_X_14) (va_AO.use hO.1) hK 0 rfl (by decide) (N' := 8) rfl (by omega) (by omega) (by omega) d_X_init_21 (fun H1 hn_2 hz hq => ?_)
  rw [hsz] at hn_2 hz hq ⊢
  have hS := xw_Snew9 hS hsz hz hq
  have hat := xn_1 hat (fun q h1 h2 => hq q (by (try dsimp only at h1 h2); omega))
  have hz0 := xn_1 hz0 (fun q h1 h2 => hq q (by (try dsimp only at h1 h2); omega))
  have hsz := hz
  have hn_2 : va_at g.1 vwCl (o + 2, .inl (g.2 0, 8, xw_r (fun _ => none))) H1 := hn_2
  refine xb_putF hx hb hts xw_in_X t_X t_X_ok n_X hown hK (ci := xi_X) rfl 0 (by decide) (hts _ lk_X_16) rfl rfl hin rfl hat rfl rfl (Nat.le_of_ble_eq_true rfl) d_X_init_24 (fun H lc hlc hat hz hq => ?_)
  have hat : va_at g.1 vwCl (o, .inr (xi_X, [.ref (o + 2), .null, .null, .int 0, .int 0, .null])) H := hat
  have hsz := hz.trans hsz
  have hS := xw_Sput hS hz hq hlc (by (try dsimp only); omega)
  have hz0 := xn_1 hz0 (fun q h1 h2 => hq q (by (try dsimp only at h1 h2); omega))
  have hn_2 := xn_1 hn_2 (fun q h1 h2 => hq q (by (try dsimp only at h1 h2); omega))
  refine lv_iconst (v := 0) hx hb d_X_init_27 (by decide) ?_
  refine lv_istore_n (lv' := [(2, .int 0), (1, .ref (o + 1)), (0, .ref o)]) hx hb d_X_init_28 rfl hl (by decide) rfl (fun ls hl => ?_)
  have loop0 : ∀ (n i : Nat) (f : Nat → Option Nat) (H : Heap) (locs : List Loc) (cells slots : Nat) (ls : Array Slot), i + n = 8 → va_at g.1 vwCl (o, .inr (xi_X, [.ref (o + 2), .null, .null, .int 0, .int 0, .null])) H → va_at g.1 vwCl (o + 1, .inr (xi_Z, xw_zF (0, -1, -1, 0, -1, -1))) H → va_at g.1 vwCl (o + 2, .inl (g.2 0, 8, xw_r f)) H → (∀ j, j < i → f j = some (o + 3 + 4 * j)) → (∀ j, j < i → xn_A g (o + 3 + 4 * j) H) → H.size = o + 3 + 4 * i → va_S (fun q => o ≤ q) s.heap H locs → cells = 2 + 4 * i → slots = 14 + 19 * i → lv_has ls 3 [(0, .ref o), (1, .ref (o + 1)), (2, .int (nI i))] → W p l e R s m [.ref o].toArray below meth c H locs cells slots (MQ below (xb_V (fun t => t.heap.size = o + 56 ∧ xn_X g o t.heap) (fun q => o ≤ q)) [.ref o].toArray s 55 303 (fun q => o ≤ q)) (F0 m 29 ls []) := by
    intro n
    induction n with
    | zero =>
      intro i f H locs cells slots ls hi hat hz0 harr0 hf0 hA0 hsz hS hc hs hl
      obtain rfl : i = 8 := by omega
      have hsz : H.size = o + 35 := by omega
      have hFx := hA0
      have hA0 := xn_arr (f' := (fun i => some (o + 3 + 4 * i))) harr0 hf0
      have hFA := hFx
      refine lv_iload_n hx hb d_X_init_29 rfl (lv_at hl 2 rfl) ?_
      refine lv_bipush (v := 8) hx hb d_X_init_30 (by decide) ?_
      refine lv_icmp_ge (tgt := 55) hx hb d_X_init_32 (by decide) (fun c_3 => ?_) (fun c_3 => absurd (nI_le (Nat.le_refl 8) (by decide)) c_3)
      refine lv_aload_n hx hb d_X_init_55 rfl (lv_at hl 0 rfl) ?_
      refine lv_bipush (v := 6) hx hb d_X_init_56 (by decide) ?_
      refine xb_anew hx hb hown (hts _ cl_X_23) (va_AO.use hO.2.1) hK 1 rfl (by decide) (N' := 6) rfl (by omega) (by omega) (by omega) d_X_init_58 (fun H1 hn_4 hz hq => ?_)
      rw [hsz] at hn_4 hz hq ⊢
      have hS := xw_Snew9 hS hsz hz hq
      have hat := xn_1 hat (fun q h1 h2 => hq q (by (try dsimp only at h1 h2); omega))
      have hz0 := xn_1 hz0 (fun q h1 h2 => hq q (by (try dsimp only at h1 h2); omega))
      have hA0 := xn_1 hA0 (fun q h1 h2 => hq q (by (try dsimp only at h1 h2); omega))
      have hFA := fun j (hj : j < 8) => xn_A.k (hFA j hj) (fun q h1 h2 => hq q (by (try dsimp only at h1 h2); omega))
      have hsz := hz
      have hn_4 : va_at g.1 vwCl (o + 35, .inl (g.2 1, 6, xw_r (fun _ => none))) H1 := hn_4
      refine xb_putF hx hb hts xw_in_X t_X t_X_ok n_X hown hK (ci := xi_X) rfl 1 (by decide) (hts _ lk_X_25) rfl rfl hin rfl hat rfl rfl (Nat.le_of_ble_eq_true rfl) d_X_init_61 (fun H lc hlc hat hz hq => ?_)
      have hat : va_at g.1 vwCl (o, .inr (xi_X, [.ref (o + 2), .ref (o + 35), .null, .int 0, .int 0, .null])) H := hat
      have hsz := hz.trans hsz
      have hS := xw_Sput hS hz hq hlc (by (try dsimp only); omega)
      have hz0 := xn_1 hz0 (fun q h1 h2 => hq q (by (try dsimp only at h1 h2); omega))
      have hA0 := xn_1 hA0 (fun q h1 h2 => hq q (by (try dsimp only at h1 h2); omega))
      have hFA := fun j (hj : j < 8) => xn_A.k (hFA j hj) (fun q h1 h2 => hq q (by (try dsimp only at h1 h2); omega))
      have hn_4 := xn_1 hn_4 (fun q h1 h2 => hq q (by (try dsimp only at h1 h2); omega))
      refine lv_iconst (v := 0) hx hb d_X_init_64 (by decide) ?_
      refine lv_istore_n (lv' := [(2, .int 0), (0, .ref o), (1, .ref (o + 1))]) hx hb d_X_init_65 rfl hl (by decide) rfl (fun ls hl => ?_)
      have loop1 : ∀ (n i : Nat) (f : Nat → Option Nat) (H : Heap) (locs : List Loc) (cells slots : Nat) (ls : Array Slot), i + n = 6 → va_at g.1 vwCl (o, .inr (xi_X, [.ref (o + 2), .ref (o + 35), .null, .int 0, .int 0, .null])) H → va_at g.1 vwCl (o + 2, .inl (g.2 0, 8, xw_r (fun i => some (o + 3 + 4 * i)))) H → (∀ j, j < 8 → xn_A g (o + 3 + 4 * j) H) → va_at g.1 vwCl (o + 1, .inr (xi_Z, xw_zF (0, -1, -1, 0, -1, -1))) H → va_at g.1 vwCl (o + 35, .inl (g.2 1, 6, xw_r f)) H → (∀ j, j < i → f j = some (o + 36 + 3 * j)) → (∀ j, j < i → xn_C g (o + 36 + 3 * j) H) → H.size = o + 36 + 3 * i → va_S (fun q => o ≤ q) s.heap H locs → cells = 35 + 3 * i → slots = 172 + 20 * i → lv_has ls 3 [(0, .ref o), (1, .ref (o + 1)), (2, .int (nI i))] → W p l e R s m [.ref o].toArray below meth c H locs cells slots (MQ below (xb_V (fun t => t.heap.size = o + 56 ∧ xn_X g o t.heap) (fun q => o ≤ q)) [.ref o].toArray s 55 303 (fun q => o ≤ q)) (F0 m 66 ls []) := by
        intro n
        induction n with
        | zero =>
          intro i f H locs cells slots ls hi hat hA0 hFA hz0 harr1 hf1 hA1 hsz hS hc hs hl
          obtain rfl : i = 6 := by omega
          have hsz : H.size = o + 54 := by omega
          have hFx := hA1
          have hC0 := xn_arr (f' := (fun i => some (o + 36 + 3 * i))) harr1 hf1
          have hFC := hFx
          refine lv_iload_n hx hb d_X_init_66 rfl (lv_at hl 2 rfl) ?_
          refine lv_bipush (v := 6) hx hb d_X_init_67 (by decide) ?_
          refine lv_icmp_ge (tgt := 92) hx hb d_X_init_69 (by decide) (fun c_5 => ?_) (fun c_5 => absurd (nI_le (Nat.le_refl 6) (by decide)) c_5)
          refine lv_aload_n hx hb d_X_init_92 rfl (lv_at hl 0 rfl) ?_
          refine xb_new hx hb hts xw_in_Q t_Q t_Q_ok hown (hts _ cl_X_30) (hts _ is_Q) (hts _ ii_Q) hK (ci := xi_Q) rfl (fs := [.null, .int 0, .int 0]) (fun j hj => by rcases (show j = 0 ∨ j = 1 ∨ j = 2 by omega) with rfl | rfl | rfl <;> rfl) (by omega) (by omega) d_X_init_93 (fun H1 hn_6 hz hq => ?_)
          rw [hsz] at hn_6 hz hq ⊢
          have hS := xw_Snew9 hS hsz hz hq
          have hat := xn_1 hat (fun q h1 h2 => hq q (by (try dsimp only at h1 h2); omega))
          have hz0 := xn_1 hz0 (fun q h1 h2 => hq q (by (try dsimp only at h1 h2); omega))
          have hA0 := xn_1 hA0 (fun q h1 h2 => hq q (by (try dsimp only at h1 h2); omega))
          have hFA := fun j (hj : j < 8) => xn_A.k (hFA j hj) (fun q h1 h2 => hq q (by (try dsimp only at h1 h2); omega))
          have hC0 := xn_1 hC0 (fun q h1 h2 => hq q (by (try dsimp only at h1 h2); omega))
          have hFC := fun j (hj : j < 6) => xn_C.k (hFC j hj) (fun q h1 h2 => hq q (by (try dsimp only at h1 h2); omega))
          have hsz := hz
          have hn_6 : va_at g.1 vwCl (o + 54, .inr (xi_Q, [.null, .int 0, .int 0])) H1 := hn_6
          refine lv_dup hx hb d_X_init_96 rfl ?_
          refine lv_bipush (v := 8) hx hb d_X_init_97 (by decide) ?_
          refine lv_aload_n hx hb d_X_init_99 rfl (lv_at hl 1 rfl) ?_
          refine xk_N (rest := [.ref (o + 54), .ref o]) (c_Q_init l g (o + 54) (o + 1) (xw_zF (0, -1, -1, 0, -1, -1)) 8 (by decide) (by omega)) cd_Q_init ii_Q ml_X_32 im_Q_init rfl ci_Q hC hK hO hS hsz ⟨hn_6, hz0⟩ (fun q hq => by (try dsimp only at hq); (try dsimp only); omega) (by omega) (by rw [hRl]; exact Nat.le_of_ble_eq_true rfl) (by omega) (by omega) hl.1 rfl (Nat.le_of_ble_eq_true rfl) d_X_init_100 (fun H locs hpost hq hS => ?_)
          have hat := xn_1 hat (fun q h1 h2 => hq q (by (try dsimp only at h1 h2); omega) (by (try dsimp only at h1 h2); (try dsimp only); omega))
          have hz0 := xn_1 hz0 (fun q h1 h2 => hq q (by (try dsimp only at h1 h2); omega) (by (try dsimp only at h1 h2); (try dsimp only); omega))
          have hA0 := xn_1 hA0 (fun q h1 h2 => hq q (by (try dsimp only at h1 h2); omega) (by (try dsimp only at h1 h2); (try dsimp only); omega))
          have hFA := fun j (hj : j < 8) => xn_A.k (hFA j hj) (fun q h1 h2 => hq q (by (try dsimp only at h1 h2); omega) (by (try dsimp only at h1 h2); (try dsimp only); omega))
          have hC0 := xn_1 hC0 (fun q h1 h2 => hq q (by (try dsimp only at h1 h2); omega) (by (try dsimp only at h1 h2); (try dsimp only); omega))
          have hFC := fun j (hj : j < 6) => xn_C.k (hFC j hj) (fun q h1 h2 => hq q (by (try dsimp only at h1 h2); omega) (by (try dsimp only at h1 h2); (try dsimp only); omega))
          have hsz := hpost.1
          have hn_6 := hpost.2
          have hsz : H.size = o + 56 := by omega
          refine xb_putF hx hb hts xw_in_X t_X t_X_ok n_X hown hK (ci := xi_X) rfl 2 (by decide) (hts _ lk_X_35) rfl rfl hin rfl hat rfl rfl (Nat.le_of_ble_eq_true rfl) d_X_init_103 (fun H lc hlc hat hz hq => ?_)
          have hat : va_at g.1 vwCl (o, .inr (xi_X, [.ref (o + 2), .ref (o + 35), .ref (o + 54), .int 0, .int 0, .null])) H := hat
          have hsz := hz.trans hsz
          have hS := xw_Sput hS hz hq hlc (by (try dsimp only); omega)
          have hz0 := xn_1 hz0 (fun q h1 h2 => hq q (by (try dsimp only at h1 h2); omega))
          have hA0 := xn_1 hA0 (fun q h1 h2 => hq q (by (try dsimp only at h1 h2); omega))
          have hFA := fun j (hj : j < 8) => xn_A.k (hFA j hj) (fun q h1 h2 => hq q (by (try dsimp only at h1 h2); omega))
          have hC0 := xn_1 hC0 (fun q h1 h2 => hq q (by (try dsimp only at h1 h2); omega))
          have hFC := fun j (hj : j < 6) => xn_C.k (hFC j hj) (fun q h1 h2 => hq q (by (try dsimp only at h1 h2); omega))
          have hn_6 := xn_Q.k hn_6 (fun q h1 h2 => hq q (by (try dsimp only at h1 h2); omega))
          refine lv_aload_n hx hb d_X_init_106 rfl (lv_at hl 0 rfl) ?_
          refine lv_iconst (v := 1) hx hb d_X_init_107 (by decide) ?_
          refine xb_put hx hb hts xw_in_X t_X t_X_ok n_X hown hK (ci := xi_X) rfl 3 (by decide) (hts _ lk_X_39) rfl rfl hat rfl rfl (Nat.le_of_ble_eq_true rfl) d_X_init_108 (fun H lc hlc hat hz hq => ?_)
          have hat : va_at g.1 vwCl (o, .inr (xi_X, [.ref (o + 2), .ref (o + 35), .ref (o + 54), .int 1, .int 0, .null])) H := hat
          have hsz := hz.trans hsz
          have hS := xw_Sput hS hz hq hlc (by (try dsimp only); omega)
          have hz0 := xn_1 hz0 (fun q h1 h2 => hq q (by (try dsimp only at h1 h2); omega))
          have hA0 := xn_1 hA0 (fun q h1 h2 => hq q (by (try dsimp only at h1 h2); omega))
          have hFA := fun j (hj : j < 8) => xn_A.k (hFA j hj) (fun q h1 h2 => hq q (by (try dsimp only at h1 h2); omega))
          have hC0 := xn_1 hC0 (fun q h1 h2 => hq q (by (try dsimp only at h1 h2); omega))
          have hFC := fun j (hj : j < 6) => xn_C.k (hFC j hj) (fun q h1 h2 => hq q (by (try dsimp only at h1 h2); omega))
          have hn_6 := xn_Q.k hn_6 (fun q h1 h2 => hq q (by (try dsimp only at h1 h2); omega))
          refine lv_aload_n hx hb d_X_init_111 rfl (lv_at hl 0 rfl) ?_
          refine lv_sipush (v := 4242) hx hb d_X_init_112 (by decide) ?_
          refine xb_put hx hb hts xw_in_X t_X t_X_ok n_X hown hK (ci := xi_X) rfl 4 (by decide) (hts _ lk_X_43) rfl rfl hat rfl rfl (Nat.le_of_ble_eq_true rfl) d_X_init_115 (fun H lc hlc hat hz hq => ?_)
          have hat : va_at g.1 vwCl (o, .inr (xi_X, [.ref (o + 2), .ref (o + 35), .ref (o + 54), .int 1, .int 4242, .null])) H := hat
          have hsz := hz.trans hsz
          have hS := xw_Sput hS hz hq hlc (by (try dsimp only); omega)
          have hz0 := xn_1 hz0 (fun q h1 h2 => hq q (by (try dsimp only at h1 h2); omega))
          have hA0 := xn_1 hA0 (fun q h1 h2 => hq q (by (try dsimp only at h1 h2); omega))
          have hFA := fun j (hj : j < 8) => xn_A.k (hFA j hj) (fun q h1 h2 => hq q (by (try dsimp only at h1 h2); omega))
          have hC0 := xn_1 hC0 (fun q h1 h2 => hq q (by (try dsimp only at h1 h2); omega))
          have hFC := fun j (hj : j < 6) => xn_C.k (hFC j hj) (fun q h1 h2 => hq q (by (try dsimp only at h1 h2); omega))
          have hn_6 := xn_Q.k hn_6 (fun q h1 h2 => hq q (by (try dsimp only at h1 h2); omega))
          refine lv_aload_n hx hb d_X_init_118 rfl (lv_at hl 0 rfl) ?_
          refine lv_null hx hb d_X_init_119 ?_
          refine xb_put hx hb hts xw_in_X t_X t_X_ok n_X hown hK (ci := xi_X) rfl 5 (by decide) (hts _ lk_X_47) rfl rfl hat rfl rfl (Nat.le_of_ble_eq_true rfl) d_X_init_120 (fun H lc hlc hat hz hq => ?_)
          have hat : va_at g.1 vwCl (o, .inr (xi_X, [.ref (o + 2), .ref (o + 35), .ref (o + 54), .int 1, .int 4242, .null])) H := hat
          have hsz := hz.trans hsz
          have hS := xw_Sput hS hz hq hlc (by (try dsimp only); omega)
          have hz0 := xn_1 hz0 (fun q h1 h2 => hq q (by (try dsimp only at h1 h2); omega))
          have hA0 := xn_1 hA0 (fun q h1 h2 => hq q (by (try dsimp only at h1 h2); omega))
          have hFA := fun j (hj : j < 8) => xn_A.k (hFA j hj) (fun q h1 h2 => hq q (by (try dsimp only at h1 h2); omega))
          have hC0 := xn_1 hC0 (fun q h1 h2 => hq q (by (try dsimp only at h1 h2); omega))
          have hFC := fun j (hj : j < 6) => xn_C.k (hFC j hj) (fun q h1 h2 => hq q (by (try dsimp only at h1 h2); omega))
          have hn_6 := xn_Q.k hn_6 (fun q h1 h2 => hq q (by (try dsimp only at h1 h2); omega))
          exact xr_N (Post := fun H => H.size = o + 56 ∧ xn_X g o H) hC hS (by omega) (by omega) ⟨hsz, hat, hA0, hC0, hFA, hFC, hn_6⟩ d_X_init_123
        | succ n ih =>
          intro i f H locs cells slots ls hi hat hA0 hFA hz0 harr1 hf1 hA1 hsz hS hc hs hl
          refine lv_iload_n hx hb d_X_init_66 rfl (lv_at hl 2 rfl) ?_
          refine lv_bipush (v := 6) hx hb d_X_init_67 (by decide) ?_
          refine lv_icmp_ge (tgt := 92) hx hb d_X_init_69 (by decide) (fun c_7 => absurd c_7 (nI_ge (show i < 6 by omega) (by decide))) (fun c_7 => ?_)
          refine lv_aload_n hx hb d_X_init_72 rfl (lv_at hl 0 rfl) ?_
          refine xb_get hx hb hts xw_in_X hown hK (ci := xi_X) rfl 1 (by decide) (hts _ lk_X_25) rfl hat rfl d_X_init_73 ?_
          refine lv_iload_n hx hb d_X_init_76 rfl (lv_at hl 2 rfl) ?_
          refine xb_new hx hb hts xw_in_C t_C t_C_ok hown (hts _ cl_X_23) (hts _ is_C) (hts _ ii_C) hK (ci := xi_C) rfl (fs := [.null, .int 0, .int 0, .int 0, .int 0, .int 0, .int 0]) (fun j hj => by rcases (show j = 0 ∨ j = 1 ∨ j = 2 ∨ j = 3 ∨ j = 4 ∨ j = 5 ∨ j = 6 by omega) with rfl | rfl | rfl | rfl | rfl | rfl | rfl <;> rfl) (by omega) (by omega) d_X_init_77 (fun H1 hn_8 hz hq => ?_)
          rw [hsz] at hn_8 hz hq ⊢
          have hS := xw_Snew9 hS hsz hz hq
          have hat := xn_1 hat (fun q h1 h2 => hq q (by (try dsimp only at h1 h2); omega))
          have hz0 := xn_1 hz0 (fun q h1 h2 => hq q (by (try dsimp only at h1 h2); omega))
          have hA0 := xn_1 hA0 (fun q h1 h2 => hq q (by (try dsimp only at h1 h2); omega))
          have hFA := fun j (hj : j < 8) => xn_A.k (hFA j hj) (fun q h1 h2 => hq q (by (try dsimp only at h1 h2); omega))
          have harr1 := xn_1 harr1 (fun q h1 h2 => hq q (by (try dsimp only at h1 h2); omega))
          have hA1 := fun j (hj : j < i) => xn_C.k (hA1 j hj) (fun q h1 h2 => hq q (by (try dsimp only at h1 h2); omega))
          have hsz := hz
          have hn_8 : va_at g.1 vwCl (o + 36 + 3 * i, .inr (xi_C, [.null, .int 0, .int 0, .int 0, .int 0, .int 0, .int 0])) H1 := hn_8
          refine lv_dup hx hb d_X_init_80 rfl ?_
          refine lv_aload_n hx hb d_X_init_81 rfl (lv_at hl 1 rfl) ?_
          refine xk_N (rest := [.ref (o + 36 + 3 * i), .int (nI i), .ref (o + 35)]) (c_C_init l g (o + 36 + 3 * i) (o + 1) (xw_zF (0, -1, -1, 0, -1, -1)) (by omega)) cd_C_init ii_C ml_X_29 im_C_init rfl ci_C hC hK hO hS hsz ⟨hn_8, hz0⟩ (fun q hq => by (try dsimp only at hq); (try dsimp only); omega) (by omega) (by rw [hRl]; exact Nat.le_of_ble_eq_true rfl) (by omega) (by omega) hl.1 rfl (Nat.le_of_ble_eq_true rfl) d_X_init_82 (fun H locs hpost hq hS => ?_)
          have hat := xn_1 hat (fun q h1 h2 => hq q (by (try dsimp only at h1 h2); omega) (by (try dsimp only at h1 h2); (try dsimp only); omega))
          have hz0 := xn_1 hz0 (fun q h1 h2 => hq q (by (try dsimp only at h1 h2); omega) (by (try dsimp only at h1 h2); (try dsimp only); omega))
          have hA0 := xn_1 hA0 (fun q h1 h2 => hq q (by (try dsimp only at h1 h2); omega) (by (try dsimp only at h1 h2); (try dsimp only); omega))
          have hFA := fun j (hj : j < 8) => xn_A.k (hFA j hj) (fun q h1 h2 => hq q (by (try dsimp only at h1 h2); omega) (by (try dsimp only at h1 h2); (try dsimp only); omega))
          have harr1 := xn_1 harr1 (fun q h1 h2 => hq q (by (try dsimp only at h1 h2); omega) (by (try dsimp only at h1 h2); (try dsimp only); omega))
          have hA1 := fun j (hj : j < i) => xn_C.k (hA1 j hj) (fun q h1 h2 => hq q (by (try dsimp only at h1 h2); omega) (by (try dsimp only at h1 h2); (try dsimp only); omega))
          have hsz := hpost.1
          have hn_8 := hpost.2
          have hsz : H.size = o + 36 + 3 * i + 1 + 2 := by omega
          refine xb_aast hx hb hK 1 1 rfl rfl harr1 hn_8.1 (vp_in_nI (show i < 6 by omega) (by decide)) d_X_init_85 (fun H lc hlc harr1 hz hq => ?_)
          have hsz := hz.trans hsz
          have hS := xw_Sput hS hz hq hlc (by (try dsimp only); omega)
          have hat := xn_1 hat (fun q h1 h2 => hq q (by (try dsimp only at h1 h2); omega))
          have hz0 := xn_1 hz0 (fun q h1 h2 => hq q (by (try dsimp only at h1 h2); omega))
          have hA0 := xn_1 hA0 (fun q h1 h2 => hq q (by (try dsimp only at h1 h2); omega))
          have hFA := fun j (hj : j < 8) => xn_A.k (hFA j hj) (fun q h1 h2 => hq q (by (try dsimp only at h1 h2); omega))
          have hA1 := fun j (hj : j < i) => xn_C.k (hA1 j hj) (fun q h1 h2 => hq q (by (try dsimp only at h1 h2); omega))
          have hn_8 := xn_C.k hn_8 (fun q h1 h2 => hq q (by (try dsimp only at h1 h2); omega))
          have hf1 := fun j (hj : j < i + 1) => xn_up (f := f) (j := j) hf1 hj (nI_clamp (show i < 2 ^ 31 by omega)) rfl
          have hA1 := fun j (hj : j < i + 1) => (Nat.lt_or_eq_of_le (Nat.le_of_lt_succ hj)).elim (hA1 j) (fun e => by rw [e]; exact hn_8)
          refine lv_iinc (v := nI (i + 1)) (lv' := [(2, .int (nI (i + 1))), (0, .ref o), (1, .ref (o + 1))]) hx hb d_X_init_86 hl (k := 2) rfl (nI_1 _) (by decide) rfl (fun ls hl => ?_)
          refine lv_goto (tgt := 66) hx hb d_X_init_89 (by decide) ?_
          exact ih (i + 1) _ _ _ _ _ ls (by omega) hat hA0 hFA hz0 harr1 hf1 hA1 (by omega) hS (by omega) (by omega) (lv_sub hl [1, 2, 0] rfl)
      exact loop1 6 0 _ _ _ _ _ ls (by omega) hat hA0 hFA hz0 hn_4 (fun j hj => absurd hj (Nat.not_lt_zero j)) (fun j hj => absurd hj (Nat.not_lt_zero j)) (by omega) hS (by omega) (by omega) (lv_sub hl [1, 2, 0] rfl)
    | succ n ih =>
      intro i f H locs cells slots ls hi hat hz0 harr0 hf0 hA0 hsz hS hc hs hl
      refine lv_iload_n hx hb d_X_init_29 rfl (lv_at hl 2 rfl) ?_
      refine lv_bipush (v := 8) hx hb d_X_init_30 (by decide) ?_
      refine lv_icmp_ge (tgt := 55) hx hb d_X_init_32 (by decide) (fun c_9 => absurd c_9 (nI_ge (show i < 8 by omega) (by decide))) (fun c_9 => ?_)
      refine lv_aload_n hx hb d_X_init_35 rfl (lv_at hl 0 rfl) ?_
      refine xb_get hx hb hts xw_in_X hown hK (ci := xi_X) rfl 0 (by decide) (hts _ lk_X_16) rfl hat rfl d_X_init_36 ?_
      refine lv_iload_n hx hb d_X_init_39 rfl (lv_at hl 2 rfl) ?_
      refine xb_new hx hb hts xw_in_A t_A t_A_ok hown (hts _ cl_X_14) (hts _ is_A) (hts _ ii_A) hK (ci := xi_A) rfl (fs := [.null, .null, .int 0, .int 0]) (fun j hj => by rcases (show j = 0 ∨ j = 1 ∨ j = 2 ∨ j = 3 by omega) with rfl | rfl | rfl | rfl <;> rfl) (by omega) (by omega) d_X_init_40 (fun H1 hn_10 hz hq => ?_)
      rw [hsz] at hn_10 hz hq ⊢
      have hS := xw_Snew9 hS hsz hz hq
      have hat := xn_1 hat (fun q h1 h2 => hq q (by (try dsimp only at h1 h2); omega))
      have hz0 := xn_1 hz0 (fun q h1 h2 => hq q (by (try dsimp only at h1 h2); omega))
      have harr0 := xn_1 harr0 (fun q h1 h2 => hq q (by (try dsimp only at h1 h2); omega))
      have hA0 := fun j (hj : j < i) => xn_A.k (hA0 j hj) (fun q h1 h2 => hq q (by (try dsimp only at h1 h2); omega))
      have hsz := hz
      have hn_10 : va_at g.1 vwCl (o + 3 + 4 * i, .inr (xi_A, [.null, .null, .int 0, .int 0])) H1 := hn_10
      refine lv_dup hx hb d_X_init_43 rfl ?_
      refine lv_aload_n hx hb d_X_init_44 rfl (lv_at hl 1 rfl) ?_
      refine xk_N (rest := [.ref (o + 3 + 4 * i), .int (nI i), .ref (o + 2)]) (c_A_init l g (o + 3 + 4 * i) (o + 1) (xw_zF (0, -1, -1, 0, -1, -1)) (by omega)) cd_A_init ii_A ml_X_20 im_A_init rfl ci_A hC hK hO hS hsz ⟨hn_10, hz0⟩ (fun q hq => by (try dsimp only at hq); (try dsimp only); omega) (by omega) (by rw [hRl]; exact Nat.le_of_ble_eq_true rfl) (by omega) (by omega) hl.1 rfl (Nat.le_of_ble_eq_true rfl) d_X_init_45 (fun H locs hpost hq hS => ?_)
      have hat := xn_1 hat (fun q h1 h2 => hq q (by (try dsimp only at h1 h2); omega) (by (try dsimp only at h1 h2); (try dsimp only); omega))
      have hz0 := xn_1 hz0 (fun q h1 h2 => hq q (by (try dsimp only at h1 h2); omega) (by (try dsimp only at h1 h2); (try dsimp only); omega))
      have harr0 := xn_1 harr0 (fun q h1 h2 => hq q (by (try dsimp only at h1 h2); omega) (by (try dsimp only at h1 h2); (try dsimp only); omega))
      have hA0 := fun j (hj : j < i) => xn_A.k (hA0 j hj) (fun q h1 h2 => hq q (by (try dsimp only at h1 h2); omega) (by (try dsimp only at h1 h2); (try dsimp only); omega))
      have hsz := hpost.1
      have hn_10 := hpost.2
      have hsz : H.size = o + 3 + 4 * i + 1 + 3 := by omega
      refine xb_aast hx hb hK 0 0 rfl rfl harr0 hn_10.1 (vp_in_nI (show i < 8 by omega) (by decide)) d_X_init_48 (fun H lc hlc harr0 hz hq => ?_)
      have hsz := hz.trans hsz
      have hS := xw_Sput hS hz hq hlc (by (try dsimp only); omega)
      have hat := xn_1 hat (fun q h1 h2 => hq q (by (try dsimp only at h1 h2); omega))
      have hz0 := xn_1 hz0 (fun q h1 h2 => hq q (by (try dsimp only at h1 h2); omega))
      have hA0 := fun j (hj : j < i) => xn_A.k (hA0 j hj) (fun q h1 h2 => hq q (by (try dsimp only at h1 h2); omega))
      have hn_10 := xn_A.k hn_10 (fun q h1 h2 => hq q (by (try dsimp only at h1 h2); omega))
      have hf0 := fun j (hj : j < i + 1) => xn_up (f := f) (j := j) hf0 hj (nI_clamp (show i < 2 ^ 31 by omega)) rfl
      have hA0 := fun j (hj : j < i + 1) => (Nat.lt_or_eq_of_le (Nat.le_of_lt_succ hj)).elim (hA0 j) (fun e => by rw [e]; exact hn_10)
      refine lv_iinc (v := nI (i + 1)) (lv' := [(2, .int (nI (i + 1))), (0, .ref o), (1, .ref (o + 1))]) hx hb d_X_init_49 hl (k := 2) rfl (nI_1 _) (by decide) rfl (fun ls hl => ?_)
      refine lv_goto (tgt := 29) hx hb d_X_init_52 (by decide) ?_
      exact ih (i + 1) _ _ _ _ _ ls (by omega) hat hz0 harr0 hf0 hA0 (by omega) hS (by omega) (by omega) (lv_sub hl [1, 2, 0] rfl)
  exact loop0 8 0 _ _ _ _ _ ls (by omega) hat hz0 hn_2 (fun j hj => absurd hj (Nat.not_lt_zero j)) (fun j hj => absurd hj (Nat.not_lt_zero j)) (by omega) hS (by omega) (by omega) (lv_sub hl [2, 1, 0] rfl)
end
