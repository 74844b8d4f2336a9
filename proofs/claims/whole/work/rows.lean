section
-- ===== PART A: goes FIRST, ahead of the names: the tables' words, and 'selects' of the private methods out of them =====
/-- a private method of a class that the tables say can be made, by its rows of tables_1 -/
def lw_okq (q : MethodName × Nat) : Prop := (q.1.cls ≠ "java/lang/invoke/MethodHandle" ∧ q.1.cls ≠ "java/lang/invoke/VarHandle") ∧ Cond.instantiable q.1.cls q.2 ∈ tables_1 ∧ Cond.privateMethod q.1 ∈ tables_1 ∧ Cond.instanceMethod q.1 ∈ tables_1
theorem lw_p0 : lw_okq (⟨"XmppPair", "arrive", "(LXmppPair$Stanza;)V"⟩, 6) := ⟨⟨by decide +kernel, by decide +kernel⟩, List.mem_of_getElem? (i := 15) (by decide +kernel), List.mem_of_getElem? (i := 166) (by decide +kernel), List.mem_of_getElem? (i := 167) (by decide +kernel)⟩
theorem lw_p1 : lw_okq (⟨"XmppPair", "messageArrives", "(LXmppPair$Stanza;)V"⟩, 6) := ⟨⟨by decide +kernel, by decide +kernel⟩, List.mem_of_getElem? (i := 15) (by decide +kernel), List.mem_of_getElem? (i := 170) (by decide +kernel), List.mem_of_getElem? (i := 171) (by decide +kernel)⟩
theorem lw_p2 : lw_okq (⟨"XmppPair", "boundWith", "(II)LXmppPair$Connection;"⟩, 6) := ⟨⟨by decide +kernel, by decide +kernel⟩, List.mem_of_getElem? (i := 15) (by decide +kernel), List.mem_of_getElem? (i := 174) (by decide +kernel), List.mem_of_getElem? (i := 175) (by decide +kernel)⟩
theorem lw_p3 : lw_okq (⟨"XmppPair", "greatestPriority", "(I)I"⟩, 6) := ⟨⟨by decide +kernel, by decide +kernel⟩, List.mem_of_getElem? (i := 15) (by decide +kernel), List.mem_of_getElem? (i := 182) (by decide +kernel), List.mem_of_getElem? (i := 183) (by decide +kernel)⟩
theorem lw_p4 : lw_okq (⟨"XmppPair", "giveToPriority", "(LXmppPair$Stanza;I)V"⟩, 6) := ⟨⟨by decide +kernel, by decide +kernel⟩, List.mem_of_getElem? (i := 15) (by decide +kernel), List.mem_of_getElem? (i := 190) (by decide +kernel), List.mem_of_getElem? (i := 191) (by decide +kernel)⟩
theorem lw_p5 : lw_okq (⟨"XmppPair", "returnError", "(LXmppPair$Stanza;)V"⟩, 6) := ⟨⟨by decide +kernel, by decide +kernel⟩, List.mem_of_getElem? (i := 15) (by decide +kernel), List.mem_of_getElem? (i := 198) (by decide +kernel), List.mem_of_getElem? (i := 199) (by decide +kernel)⟩
theorem lw_p6 : lw_okq (⟨"XmppPair", "giveToAvailable", "(LXmppPair$Stanza;)V"⟩, 6) := ⟨⟨by decide +kernel, by decide +kernel⟩, List.mem_of_getElem? (i := 15) (by decide +kernel), List.mem_of_getElem? (i := 202) (by decide +kernel), List.mem_of_getElem? (i := 203) (by decide +kernel)⟩
theorem lw_p7 : lw_okq (⟨"XmppPair", "askArrives", "(LXmppPair$Stanza;)V"⟩, 6) := ⟨⟨by decide +kernel, by decide +kernel⟩, List.mem_of_getElem? (i := 15) (by decide +kernel), List.mem_of_getElem? (i := 206) (by decide +kernel), List.mem_of_getElem? (i := 207) (by decide +kernel)⟩
theorem lw_p8 : lw_okq (⟨"XmppPair", "grantArrives", "(LXmppPair$Stanza;)V"⟩, 6) := ⟨⟨by decide +kernel, by decide +kernel⟩, List.mem_of_getElem? (i := 15) (by decide +kernel), List.mem_of_getElem? (i := 214) (by decide +kernel), List.mem_of_getElem? (i := 215) (by decide +kernel)⟩
theorem lw_p9 : lw_okq (⟨"XmppPair", "endingArrives", "(LXmppPair$Stanza;I)V"⟩, 6) := ⟨⟨by decide +kernel, by decide +kernel⟩, List.mem_of_getElem? (i := 15) (by decide +kernel), List.mem_of_getElem? (i := 226) (by decide +kernel), List.mem_of_getElem? (i := 227) (by decide +kernel)⟩
theorem lw_p10 : lw_okq (⟨"java/lang/Throwable", "fillInStackTrace", "(I)Ljava/lang/Throwable;"⟩, 6) := ⟨⟨by decide +kernel, by decide +kernel⟩, List.mem_of_getElem? (i := 284) (by decide +kernel), List.mem_of_getElem? (i := 282) (by decide +kernel), List.mem_of_getElem? (i := 283) (by decide +kernel)⟩
theorem lw_p11 : lw_okq (⟨"XmppPair", "isRightProof", "(LXmppPair$Connection;I)Z"⟩, 6) := ⟨⟨by decide +kernel, by decide +kernel⟩, List.mem_of_getElem? (i := 15) (by decide +kernel), List.mem_of_getElem? (i := 356) (by decide +kernel), List.mem_of_getElem? (i := 357) (by decide +kernel)⟩
theorem lw_p12 : lw_okq (⟨"XmppPair", "shut", "(LXmppPair$Connection;)V"⟩, 6) := ⟨⟨by decide +kernel, by decide +kernel⟩, List.mem_of_getElem? (i := 15) (by decide +kernel), List.mem_of_getElem? (i := 382) (by decide +kernel), List.mem_of_getElem? (i := 383) (by decide +kernel)⟩
theorem lw_p13 : lw_okq (⟨"XmppPair", "sendToWatchers", "(LXmppPair$Connection;I)V"⟩, 6) := ⟨⟨by decide +kernel, by decide +kernel⟩, List.mem_of_getElem? (i := 15) (by decide +kernel), List.mem_of_getElem? (i := 386) (by decide +kernel), List.mem_of_getElem? (i := 387) (by decide +kernel)⟩
theorem lw_p14 : lw_okq (⟨"XmppPair", "send", "(LXmppPair$Stanza;)V"⟩, 6) := ⟨⟨by decide +kernel, by decide +kernel⟩, List.mem_of_getElem? (i := 15) (by decide +kernel), List.mem_of_getElem? (i := 393) (by decide +kernel), List.mem_of_getElem? (i := 394) (by decide +kernel)⟩
theorem lw_p15 : lw_okq (⟨"XmppPair", "canReach", "(II)Z"⟩, 6) := ⟨⟨by decide +kernel, by decide +kernel⟩, List.mem_of_getElem? (i := 15) (by decide +kernel), List.mem_of_getElem? (i := 397) (by decide +kernel), List.mem_of_getElem? (i := 398) (by decide +kernel)⟩
def lw_privs_1 : List (MethodName × Nat) := [(⟨"XmppPair", "arrive", "(LXmppPair$Stanza;)V"⟩, 6), (⟨"XmppPair", "messageArrives", "(LXmppPair$Stanza;)V"⟩, 6), (⟨"XmppPair", "boundWith", "(II)LXmppPair$Connection;"⟩, 6), (⟨"XmppPair", "greatestPriority", "(I)I"⟩, 6), (⟨"XmppPair", "giveToPriority", "(LXmppPair$Stanza;I)V"⟩, 6), (⟨"XmppPair", "returnError", "(LXmppPair$Stanza;)V"⟩, 6), (⟨"XmppPair", "giveToAvailable", "(LXmppPair$Stanza;)V"⟩, 6), (⟨"XmppPair", "askArrives", "(LXmppPair$Stanza;)V"⟩, 6), (⟨"XmppPair", "grantArrives", "(LXmppPair$Stanza;)V"⟩, 6), (⟨"XmppPair", "endingArrives", "(LXmppPair$Stanza;I)V"⟩, 6), (⟨"java/lang/Throwable", "fillInStackTrace", "(I)Ljava/lang/Throwable;"⟩, 6), (⟨"XmppPair", "isRightProof", "(LXmppPair$Connection;I)Z"⟩, 6), (⟨"XmppPair", "shut", "(LXmppPair$Connection;)V"⟩, 6), (⟨"XmppPair", "sendToWatchers", "(LXmppPair$Connection;I)V"⟩, 6), (⟨"XmppPair", "send", "(LXmppPair$Stanza;)V"⟩, 6), (⟨"XmppPair", "canReach", "(II)Z"⟩, 6)]
theorem lw_r1 : ∀ q ∈ lw_privs_1, lw_okq q := List.forall_mem_cons.mpr ⟨lw_p0, List.forall_mem_cons.mpr ⟨lw_p1, List.forall_mem_cons.mpr ⟨lw_p2, List.forall_mem_cons.mpr ⟨lw_p3, List.forall_mem_cons.mpr ⟨lw_p4, List.forall_mem_cons.mpr ⟨lw_p5, List.forall_mem_cons.mpr ⟨lw_p6, List.forall_mem_cons.mpr ⟨lw_p7, List.forall_mem_cons.mpr ⟨lw_p8, List.forall_mem_cons.mpr ⟨lw_p9, List.forall_mem_cons.mpr ⟨lw_p10, List.forall_mem_cons.mpr ⟨lw_p11, List.forall_mem_cons.mpr ⟨lw_p12, List.forall_mem_cons.mpr ⟨lw_p13, List.forall_mem_cons.mpr ⟨lw_p14, List.forall_mem_cons.mpr ⟨lw_p15, fun _ h => absurd h List.not_mem_nil⟩⟩⟩⟩⟩⟩⟩⟩⟩⟩⟩⟩⟩⟩⟩⟩
theorem lw_p16 : lw_okq (⟨"XmppPair", "showOthers", "(LXmppPair$Connection;)V"⟩, 6) := ⟨⟨by decide +kernel, by decide +kernel⟩, List.mem_of_getElem? (i := 15) (by decide +kernel), List.mem_of_getElem? (i := 411) (by decide +kernel), List.mem_of_getElem? (i := 412) (by decide +kernel)⟩
theorem lw_p17 : lw_okq (⟨"XmppPair", "showConnectionsOf", "(ILXmppPair$Connection;)V"⟩, 6) := ⟨⟨by decide +kernel, by decide +kernel⟩, List.mem_of_getElem? (i := 15) (by decide +kernel), List.mem_of_getElem? (i := 415) (by decide +kernel), List.mem_of_getElem? (i := 416) (by decide +kernel)⟩
theorem lw_p18 : lw_okq (⟨"XmppPair", "handOverKept", "(LXmppPair$Connection;)V"⟩, 6) := ⟨⟨by decide +kernel, by decide +kernel⟩, List.mem_of_getElem? (i := 15) (by decide +kernel), List.mem_of_getElem? (i := 419) (by decide +kernel), List.mem_of_getElem? (i := 420) (by decide +kernel)⟩
theorem lw_p19 : lw_okq (⟨"XmppPair", "sendPresences", "(III)V"⟩, 6) := ⟨⟨by decide +kernel, by decide +kernel⟩, List.mem_of_getElem? (i := 15) (by decide +kernel), List.mem_of_getElem? (i := 451) (by decide +kernel), List.mem_of_getElem? (i := 452) (by decide +kernel)⟩
theorem lw_p20 : lw_okq (⟨"XmppPair", "keptForAll", "()I"⟩, 6) := ⟨⟨by decide +kernel, by decide +kernel⟩, List.mem_of_getElem? (i := 15) (by decide +kernel), List.mem_of_getElem? (i := 509) (by decide +kernel), List.mem_of_getElem? (i := 510) (by decide +kernel)⟩
theorem lw_p21 : lw_okq (⟨"XmppPair", "lostByAll", "()I"⟩, 6) := ⟨⟨by decide +kernel, by decide +kernel⟩, List.mem_of_getElem? (i := 15) (by decide +kernel), List.mem_of_getElem? (i := 513) (by decide +kernel), List.mem_of_getElem? (i := 514) (by decide +kernel)⟩
theorem lw_p22 : lw_okq (⟨"XmppPairModel", "raise", "(I)I"⟩, 34) := ⟨⟨by decide +kernel, by decide +kernel⟩, List.mem_of_getElem? (i := 517) (by decide +kernel), List.mem_of_getElem? (i := 641) (by decide +kernel), List.mem_of_getElem? (i := 642) (by decide +kernel)⟩
theorem lw_p23 : lw_okq (⟨"XmppPairModel", "shut", "(I)V"⟩, 34) := ⟨⟨by decide +kernel, by decide +kernel⟩, List.mem_of_getElem? (i := 517) (by decide +kernel), List.mem_of_getElem? (i := 667) (by decide +kernel), List.mem_of_getElem? (i := 668) (by decide +kernel)⟩
theorem lw_p24 : lw_okq (⟨"XmppPairModel", "tell", "(II)V"⟩, 34) := ⟨⟨by decide +kernel, by decide +kernel⟩, List.mem_of_getElem? (i := 517) (by decide +kernel), List.mem_of_getElem? (i := 671) (by decide +kernel), List.mem_of_getElem? (i := 672) (by decide +kernel)⟩
theorem lw_p25 : lw_okq (⟨"XmppPairModel", "marked", "(III)Z"⟩, 34) := ⟨⟨by decide +kernel, by decide +kernel⟩, List.mem_of_getElem? (i := 517) (by decide +kernel), List.mem_of_getElem? (i := 675) (by decide +kernel), List.mem_of_getElem? (i := 676) (by decide +kernel)⟩
theorem lw_p26 : lw_okq (⟨"XmppPairModel", "send", "(IIIIII)V"⟩, 34) := ⟨⟨by decide +kernel, by decide +kernel⟩, List.mem_of_getElem? (i := 517) (by decide +kernel), List.mem_of_getElem? (i := 679) (by decide +kernel), List.mem_of_getElem? (i := 680) (by decide +kernel)⟩
theorem lw_p27 : lw_okq (⟨"XmppPairModel", "hold", "(IIIIII)V"⟩, 34) := ⟨⟨by decide +kernel, by decide +kernel⟩, List.mem_of_getElem? (i := 517) (by decide +kernel), List.mem_of_getElem? (i := 683) (by decide +kernel), List.mem_of_getElem? (i := 684) (by decide +kernel)⟩
theorem lw_p28 : lw_okq (⟨"XmppPairModel", "putAll", "(IIIII)V"⟩, 34) := ⟨⟨by decide +kernel, by decide +kernel⟩, List.mem_of_getElem? (i := 517) (by decide +kernel), List.mem_of_getElem? (i := 687) (by decide +kernel), List.mem_of_getElem? (i := 688) (by decide +kernel)⟩
theorem lw_p29 : lw_okq (⟨"XmppPairModel", "put", "(IIIII)V"⟩, 34) := ⟨⟨by decide +kernel, by decide +kernel⟩, List.mem_of_getElem? (i := 517) (by decide +kernel), List.mem_of_getElem? (i := 691) (by decide +kernel), List.mem_of_getElem? (i := 692) (by decide +kernel)⟩
theorem lw_p30 : lw_okq (⟨"XmppPairModel", "arrive", "(IIIIII)V"⟩, 34) := ⟨⟨by decide +kernel, by decide +kernel⟩, List.mem_of_getElem? (i := 517) (by decide +kernel), List.mem_of_getElem? (i := 695) (by decide +kernel), List.mem_of_getElem? (i := 696) (by decide +kernel)⟩
theorem lw_p31 : lw_okq (⟨"XmppPairModel", "route", "(IIIII)I"⟩, 34) := ⟨⟨by decide +kernel, by decide +kernel⟩, List.mem_of_getElem? (i := 517) (by decide +kernel), List.mem_of_getElem? (i := 699) (by decide +kernel), List.mem_of_getElem? (i := 700) (by decide +kernel)⟩
def lw_privs_2 : List (MethodName × Nat) := [(⟨"XmppPair", "showOthers", "(LXmppPair$Connection;)V"⟩, 6), (⟨"XmppPair", "showConnectionsOf", "(ILXmppPair$Connection;)V"⟩, 6), (⟨"XmppPair", "handOverKept", "(LXmppPair$Connection;)V"⟩, 6), (⟨"XmppPair", "sendPresences", "(III)V"⟩, 6), (⟨"XmppPair", "keptForAll", "()I"⟩, 6), (⟨"XmppPair", "lostByAll", "()I"⟩, 6), (⟨"XmppPairModel", "raise", "(I)I"⟩, 34), (⟨"XmppPairModel", "shut", "(I)V"⟩, 34), (⟨"XmppPairModel", "tell", "(II)V"⟩, 34), (⟨"XmppPairModel", "marked", "(III)Z"⟩, 34), (⟨"XmppPairModel", "send", "(IIIIII)V"⟩, 34), (⟨"XmppPairModel", "hold", "(IIIIII)V"⟩, 34), (⟨"XmppPairModel", "putAll", "(IIIII)V"⟩, 34), (⟨"XmppPairModel", "put", "(IIIII)V"⟩, 34), (⟨"XmppPairModel", "arrive", "(IIIIII)V"⟩, 34), (⟨"XmppPairModel", "route", "(IIIII)I"⟩, 34)]
theorem lw_r2 : ∀ q ∈ lw_privs_2, lw_okq q := List.forall_mem_cons.mpr ⟨lw_p16, List.forall_mem_cons.mpr ⟨lw_p17, List.forall_mem_cons.mpr ⟨lw_p18, List.forall_mem_cons.mpr ⟨lw_p19, List.forall_mem_cons.mpr ⟨lw_p20, List.forall_mem_cons.mpr ⟨lw_p21, List.forall_mem_cons.mpr ⟨lw_p22, List.forall_mem_cons.mpr ⟨lw_p23, List.forall_mem_cons.mpr ⟨lw_p24, List.forall_mem_cons.mpr ⟨lw_p25, List.forall_mem_cons.mpr ⟨lw_p26, List.forall_mem_cons.mpr ⟨lw_p27, List.forall_mem_cons.mpr ⟨lw_p28, List.forall_mem_cons.mpr ⟨lw_p29, List.forall_mem_cons.mpr ⟨lw_p30, List.forall_mem_cons.mpr ⟨lw_p31, fun _ h => absurd h List.not_mem_nil⟩⟩⟩⟩⟩⟩⟩⟩⟩⟩⟩⟩⟩⟩⟩⟩
theorem lw_p32 : lw_okq (⟨"XmppPairModel", "mark", "(III)V"⟩, 34) := ⟨⟨by decide +kernel, by decide +kernel⟩, List.mem_of_getElem? (i := 517) (by decide +kernel), List.mem_of_getElem? (i := 703) (by decide +kernel), List.mem_of_getElem? (i := 704) (by decide +kernel)⟩
theorem lw_p33 : lw_okq (⟨"XmppPairModel", "unmark", "(III)V"⟩, 34) := ⟨⟨by decide +kernel, by decide +kernel⟩, List.mem_of_getElem? (i := 517) (by decide +kernel), List.mem_of_getElem? (i := 707) (by decide +kernel), List.mem_of_getElem? (i := 708) (by decide +kernel)⟩
theorem lw_p34 : lw_okq (⟨"XmppPairModel", "end", "(IIII)V"⟩, 34) := ⟨⟨by decide +kernel, by decide +kernel⟩, List.mem_of_getElem? (i := 517) (by decide +kernel), List.mem_of_getElem? (i := 711) (by decide +kernel), List.mem_of_getElem? (i := 712) (by decide +kernel)⟩
theorem lw_p35 : lw_okq (⟨"XmppPairModel", "welcome", "(I)V"⟩, 34) := ⟨⟨by decide +kernel, by decide +kernel⟩, List.mem_of_getElem? (i := 517) (by decide +kernel), List.mem_of_getElem? (i := 719) (by decide +kernel), List.mem_of_getElem? (i := 720) (by decide +kernel)⟩
theorem lw_p36 : lw_okq (⟨"XmppPairModel", "show", "(III)V"⟩, 34) := ⟨⟨by decide +kernel, by decide +kernel⟩, List.mem_of_getElem? (i := 517) (by decide +kernel), List.mem_of_getElem? (i := 739) (by decide +kernel), List.mem_of_getElem? (i := 740) (by decide +kernel)⟩
def lw_privs_3 : List (MethodName × Nat) := [(⟨"XmppPairModel", "mark", "(III)V"⟩, 34), (⟨"XmppPairModel", "unmark", "(III)V"⟩, 34), (⟨"XmppPairModel", "end", "(IIII)V"⟩, 34), (⟨"XmppPairModel", "welcome", "(I)V"⟩, 34), (⟨"XmppPairModel", "show", "(III)V"⟩, 34)]
theorem lw_r3 : ∀ q ∈ lw_privs_3, lw_okq q := List.forall_mem_cons.mpr ⟨lw_p32, List.forall_mem_cons.mpr ⟨lw_p33, List.forall_mem_cons.mpr ⟨lw_p34, List.forall_mem_cons.mpr ⟨lw_p35, List.forall_mem_cons.mpr ⟨lw_p36, fun _ h => absurd h List.not_mem_nil⟩⟩⟩⟩⟩
def lw_privs : List (MethodName × Nat) := lw_privs_1 ++ (lw_privs_2 ++ (lw_privs_3))
def lw_tbl : List Cond := k2_sels lw_privs ++ tables_1
theorem lw_privs_ok : ∀ q ∈ lw_privs, lw_okq q := by
  show ∀ q ∈ lw_privs_1 ++ (lw_privs_2 ++ (lw_privs_3)), lw_okq q
  exact List.forall_mem_append.mpr ⟨lw_r1, List.forall_mem_append.mpr ⟨lw_r2, lw_r3⟩⟩
end
section
/-! What a state of the system IS: a mathematical value, and what each method does to it. -/
/-- a stanza: kind, from, resource, value, to, target -/
abbrev xs_Z : Type := Int32 × Int32 × Int32 × Int32 × Int32 × Int32
/-- a connection: stage, account, resource, priority, challenge, available -/
abbrev xs_C : Type := Int32 × Int32 × Int32 × Int32 × Int32 × Bool
/-- accounts (registered, password), marks, connections, the fifteen queues (0 to 7 kept, 8 to 13 inboxes, 14 waiting), their losses, link, next challenge, taken last -/
abbrev xs_S : Type := (Nat → Bool × Int32) × (Nat → Nat → Int32) × (Nat → xs_C) × (Nat → List xs_Z) × (Nat → Int32) × Bool × Int32 × Option xs_Z
def xs_b (b : Bool) : Int32 := if b = true then 1 else 0
theorem xs_b0 {b : Bool} (h : xs_b b = 0) : b = false := by cases b <;> first | rfl | (exact absurd h (by decide))
theorem xs_b1 {b : Bool} (h : ¬ xs_b b = 0) : b = true := by cases b <;> first | rfl | (exact absurd rfl h)
def xs_ac (σ : xs_S) : Nat → Bool × Int32 := σ.1
def xs_mk (σ : xs_S) : Nat → Nat → Int32 := σ.2.1
def xs_cn (σ : xs_S) : Nat → xs_C := σ.2.2.1
def xs_q (σ : xs_S) : Nat → List xs_Z := σ.2.2.2.1
def xs_lo (σ : xs_S) : Nat → Int32 := σ.2.2.2.2.1
def xs_up (σ : xs_S) : Bool := σ.2.2.2.2.2.1
def xs_nx (σ : xs_S) : Int32 := σ.2.2.2.2.2.2.1
def xs_lt (σ : xs_S) : Option xs_Z := σ.2.2.2.2.2.2.2
def xs_sac (σ : xs_S) (i : Nat) (v : Bool × Int32) : xs_S := (va_up (xs_ac σ) i v, xs_mk σ, xs_cn σ, xs_q σ, xs_lo σ, xs_up σ, xs_nx σ, xs_lt σ)
def xs_smk (σ : xs_S) (i j : Nat) (v : Int32) : xs_S := (xs_ac σ, va_up (xs_mk σ) i (upd (xs_mk σ i) j v), xs_cn σ, xs_q σ, xs_lo σ, xs_up σ, xs_nx σ, xs_lt σ)
def xs_scn (σ : xs_S) (i : Nat) (v : xs_C) : xs_S := (xs_ac σ, xs_mk σ, va_up (xs_cn σ) i v, xs_q σ, xs_lo σ, xs_up σ, xs_nx σ, xs_lt σ)
def xs_sq (σ : xs_S) (n : Nat) (l : List xs_Z) (w : Int32) : xs_S := (xs_ac σ, xs_mk σ, xs_cn σ, va_up (xs_q σ) n l, va_up (xs_lo σ) n w, xs_up σ, xs_nx σ, xs_lt σ)
def xs_sg (σ : xs_S) (u : Bool) (n : Int32) (t : Option xs_Z) : xs_S := (xs_ac σ, xs_mk σ, xs_cn σ, xs_q σ, xs_lo σ, u, n, t)
/-- the offset of a queue in the block of cells, and its room -/
def xs_qo (n : Nat) : Nat := if n < 8 then 5 + 4 * n else if n < 14 then 37 + 3 * (n - 8) else 54
def xs_rm (n : Nat) : Nat := if n < 8 then 4 else if n < 14 then 10 else 8
def xs_z0 : xs_Z := (0, -1, -1, 0, -1, -1)
def xs_ix (x : Int32) : Nat := x.toNatClampNeg
-- queues
def xm_add (σ : xs_S) (n : Nat) (z : xs_Z) : xs_S := if (xs_q σ n).length < xs_rm n then xs_sq σ n (xs_q σ n ++ [z]) (xs_lo σ n) else xs_sq σ n (xs_q σ n) (xs_lo σ n + 1)
def xm_pop (σ : xs_S) (n : Nat) : xs_S := xs_sq σ n (xs_q σ n).tail (xs_lo σ n)
def xm_full (σ : xs_S) (n : Nat) : Bool := decide (xs_rm n ≤ (xs_q σ n).length)
def xm_clear (σ : xs_S) (n : Nat) : xs_S := xs_sq σ n [] (xs_lo σ n)
-- marks
def xm_has (σ : xs_S) (a b : Nat) (w : Int32) : Bool := decide (¬ xs_mk σ a b &&& w = 0)
def xm_mark (σ : xs_S) (a b : Nat) (w : Int32) : xs_S := xs_smk σ a b (xs_mk σ a b ||| w)
def xm_drop (σ : xs_S) (a b : Nat) (w : Int32) : xs_S := xs_smk σ a b (xs_mk σ a b &&& (w ^^^ (-1)))
-- who is there
def xm_av (σ : xs_S) (i : Nat) (w : Int32) : Bool := (xs_cn σ i).2.2.2.2.2 && decide ((xs_cn σ i).2.1 = w)
def xm_one (f t : Int32) : Bool := decide (4 ≤ f) == decide (4 ≤ t)
def xm_reach (σ : xs_S) (f t : Int32) : Bool := xs_up σ || xm_one f t
def xm_bw : Nat → Nat → xs_S → Int32 → Int32 → Option Nat
  | 0, _, _, _, _ => none
  | n + 1, i, σ, a, r => if (xs_cn σ i).1 = 4 ∧ (xs_cn σ i).2.1 = a ∧ (xs_cn σ i).2.2.1 = r then some i else xm_bw n (i + 1) σ a r
def xm_great : Nat → Nat → xs_S → Int32 → Int32 → Int32
  | 0, _, _, _, g => g
  | n + 1, i, σ, a, g => xm_great n (i + 1) σ a (if xm_av σ i a = true ∧ g < (xs_cn σ i).2.2.2.1 then (xs_cn σ i).2.2.2.1 else g)
-- giving
def xm_give : Nat → Nat → xs_S → xs_Z → xs_S
  | 0, _, σ, _ => σ
  | n + 1, i, σ, z => xm_give n (i + 1) (if xm_av σ i z.2.2.2.2.1 = true then xm_add σ (8 + i) z else σ) z
def xm_gp : Nat → Nat → xs_S → xs_Z → Int32 → xs_S
  | 0, _, σ, _, _ => σ
  | n + 1, i, σ, z, p => xm_gp n (i + 1) (if xm_av σ i z.2.2.2.2.1 = true ∧ (xs_cn σ i).2.2.2.1 = p then xm_add σ (8 + i) z else σ) z p
def xm_err (σ : xs_S) (z : xs_Z) : xs_S := xm_give 6 0 σ (8, z.2.2.2.2.1, -1, z.2.2.2.1, z.2.1, -1)
-- arriving
def xm_msg2 (σ : xs_S) (z : xs_Z) : xs_S :=
  if ¬ xm_great 6 0 σ z.2.2.2.2.1 (-1) < 0 then xm_gp 6 0 σ z (xm_great 6 0 σ z.2.2.2.2.1 (-1))
  else if (xs_ac σ (xs_ix z.2.2.2.2.1)).1 = true ∧ xm_full σ (xs_ix z.2.2.2.2.1) = false then xm_add σ (xs_ix z.2.2.2.2.1) z
  else xm_err σ z
def xm_msg (σ : xs_S) (z : xs_Z) : xs_S := match xm_bw 6 0 σ z.2.2.2.2.1 z.2.2.2.2.2 with
  | none => xm_msg2 σ z
  | some i => if (xs_cn σ i).2.2.2.2.2 = true then xm_add σ (8 + i) z else xm_msg2 σ z
def xm_grant (σ : xs_S) (z : xs_Z) : xs_S :=
  if xm_has σ (xs_ix z.2.2.2.2.1) (xs_ix z.2.1) 4 = true then xm_give 6 0 (xm_drop (xm_mark σ (xs_ix z.2.2.2.2.1) (xs_ix z.2.1) 1) (xs_ix z.2.2.2.2.1) (xs_ix z.2.1) 4) z else σ
def xm_ask (σ : xs_S) (z : xs_Z) : xs_S :=
  if xm_has σ (xs_ix z.2.2.2.2.1) (xs_ix z.2.1) 2 = true then xm_grant σ (5, z.2.2.2.2.1, -1, 0, z.2.1, -1)
  else if (xs_ac σ (xs_ix z.2.2.2.2.1)).1 = true then xm_give 6 0 (xm_mark σ (xs_ix z.2.2.2.2.1) (xs_ix z.2.1) 8) z
  else σ
def xm_end (σ : xs_S) (z : xs_Z) (w : Int32) : xs_S :=
  if xm_has σ (xs_ix z.2.2.2.2.1) (xs_ix z.2.1) w = true then xm_give 6 0 (xm_drop σ (xs_ix z.2.2.2.2.1) (xs_ix z.2.1) w) z else σ
def xm_arr (σ : xs_S) (z : xs_Z) : xs_S :=
  if z.1 = 1 then xm_msg σ z
  else if z.1 = 4 then xm_ask σ z
  else if z.1 = 5 then xm_grant σ z
  else if z.1 = 6 then xm_end σ z 10
  else if z.1 = 7 then xm_end σ z 5
  else if z.1 = 2 ∨ z.1 = 3 then (if xm_has σ (xs_ix z.2.2.2.2.1) (xs_ix z.2.1) 1 = true then xm_give 6 0 σ z else σ)
  else σ
def xm_send (σ : xs_S) (z : xs_Z) : xs_S :=
  if xm_reach σ z.2.1 z.2.2.2.2.1 = true then xm_arr σ z
  else if xm_full σ 14 = false then xm_add σ 14 z
  else if z.1 = 1 then xm_err σ z
  else σ
-- presences
def xm_pres (σ : xs_S) (i : Nat) (k t : Int32) : xs_Z := (k, (xs_cn σ i).2.1, (xs_cn σ i).2.2.1, (if k = 2 then (xs_cn σ i).2.2.2.1 else 0), t, -1)
def xm_stw : Nat → Nat → xs_S → Nat → Nat → Int32 → xs_S
  | 0, _, σ, _, _, _ => σ
  | n + 1, j, σ, a, i, k => xm_stw n (j + 1) (if xm_has σ a j 2 = true then xm_send σ (xm_pres σ i k (nI j)) else σ) a i k
def xm_sp : Nat → Nat → xs_S → Int32 → Int32 → Int32 → xs_S
  | 0, _, σ, _, _, _ => σ
  | n + 1, i, σ, a, t, k => xm_sp n (i + 1) (if xm_av σ i a = true then xm_send σ (xm_pres σ i k t) else σ) a t k
def xm_sco : Nat → Nat → xs_S → Int32 → Nat → xs_S
  | 0, _, σ, _, _ => σ
  | n + 1, i, σ, w, c => xm_sco n (i + 1) (if xm_av σ i w = true then xm_add σ (8 + c) (xm_pres σ i 2 (xs_cn σ c).2.1) else σ) w c
def xm_so : Nat → Nat → xs_S → Nat → Nat → xs_S
  | 0, _, σ, _, _ => σ
  | n + 1, j, σ, a, c => xm_so n (j + 1) (if xm_has σ a j 1 = true ∧ xm_reach σ (xs_cn σ c).2.1 (nI j) = true then xm_sco 6 0 σ (nI j) c else σ) a c
def xm_hk : Nat → xs_S → Nat → Nat → xs_S
  | 0, σ, _, _ => σ
  | n + 1, σ, a, c => xm_hk n (xm_add (xm_pop σ a) (8 + c) ((xs_q σ a).headD xs_z0)) a c
def xm_com (σ : xs_S) (a b : Nat) (k : Int32) : xs_S :=
  if k = 4 then (if xm_has σ a b 1 = true then σ else xm_mark σ a b 4)
  else if k = 5 then xm_drop (xm_mark σ a b 2) a b 8
  else if k = 6 then xm_drop σ a b 5
  else if k = 7 then xm_drop σ a b 10
  else σ
def xm_sav (σ : xs_S) (i : Nat) (b : Bool) : xs_S := xs_scn σ i ((xs_cn σ i).1, (xs_cn σ i).2.1, (xs_cn σ i).2.2.1, (xs_cn σ i).2.2.2.1, (xs_cn σ i).2.2.2.2.1, b)
def xm_sst (σ : xs_S) (i : Nat) (v : Int32) : xs_S := xs_scn σ i (v, (xs_cn σ i).2)
def xm_sacc (σ : xs_S) (i : Nat) (v : Int32) : xs_S := xs_scn σ i ((xs_cn σ i).1, v, (xs_cn σ i).2.2)
def xm_srs (σ : xs_S) (i : Nat) (v : Int32) : xs_S := xs_scn σ i ((xs_cn σ i).1, (xs_cn σ i).2.1, v, (xs_cn σ i).2.2.2)
def xm_spr (σ : xs_S) (i : Nat) (v : Int32) : xs_S := xs_scn σ i ((xs_cn σ i).1, (xs_cn σ i).2.1, (xs_cn σ i).2.2.1, v, (xs_cn σ i).2.2.2.2)
def xm_sch (σ : xs_S) (i : Nat) (v : Int32) : xs_S := xs_scn σ i ((xs_cn σ i).1, (xs_cn σ i).2.1, (xs_cn σ i).2.2.1, (xs_cn σ i).2.2.2.1, v, (xs_cn σ i).2.2.2.2.2)
def xm_quiet (σ : xs_S) (i : Nat) : xs_S := if (xs_cn σ i).2.2.2.2.2 = true then xm_stw 8 0 (xm_sav σ i false) (xs_ix (xs_cn σ i).2.1) i 3 else σ
def xm_shut (σ : xs_S) (i : Nat) : xs_S := xm_srs (xm_sacc (xm_sst (xm_quiet σ i) i 0) i (-1)) i (-1)
def xm_lk : Nat → xs_S → xs_S
  | 0, σ => σ
  | n + 1, σ => xm_lk n (xm_arr (xm_pop σ 14) ((xs_q σ 14).headD xs_z0))
def xm_in8 (a : Int32) : Bool := decide (¬ a < 0 ∧ ¬ 8 ≤ a)
def xm_in6 (a : Int32) : Bool := decide (¬ a < 0 ∧ ¬ 6 ≤ a)
def xm_proof (σ : xs_S) (i : Nat) (p : Int32) : Bool :=
  (xs_ac σ (xs_ix (xs_cn σ i).2.1)).1 && decide (p = ((xs_ac σ (xs_ix (xs_cn σ i).2.1)).2 * 31 + (xs_cn σ i).2.2.2.2.1) - ((xs_ac σ (xs_ix (xs_cn σ i).2.1)).2 * 31 + (xs_cn σ i).2.2.2.2.1) / 10007 * 10007)
def xm_kall : Nat → Nat → xs_S → Int32 → Int32
  | 0, _, _, w => w
  | n + 1, i, σ, w => xm_kall n (i + 1) σ (w + nI (xs_q σ i).length)
def xm_lall : Nat → Nat → xs_S → Int32 → Int32
  | 0, _, _, w => w
  | n + 1, i, σ, w => xm_lall n (i + 1) σ (w + xs_lo σ (8 + i))
def xm_bwV (o : Nat) (r : Option Nat) (v : Value) : Prop := match r with
  | none => v = .null
  | some i => v = .ref (o + 36 + 3 * i) ∧ i < 6
theorem xs_ixl {x : Int32} {n : Nat} (h : vp_in x n) : xs_ix x < n := Nat.not_le.mp fun q => h (Or.inr q)
theorem xs_8 {i : Nat} (h : i < 6) : 8 + i < 15 := by omega
theorem xm_in8t {a : Int32} (h : xm_in8 a = true) : vp_in a 8 := by
  have h := of_decide_eq_true h
  obtain ⟨j, hj, rfl⟩ := nI_of h.1
  refine vp_in_nI (Nat.not_le.mp fun q => h.2 ?_) (by decide)
  exact nI_le q hj
theorem xm_in6t {a : Int32} (h : xm_in6 a = true) : vp_in a 6 := by
  have h := of_decide_eq_true h
  obtain ⟨j, hj, rfl⟩ := nI_of h.1
  refine vp_in_nI (Nat.not_le.mp fun q => h.2 ?_) (by decide)
  exact nI_le q hj
-- the face: code (0 answers; 1 argument, 2 state, 3 unsupported, 4 no such element), answer, state
def xp_register (σ : xs_S) (a p : Int32) : Nat × Int32 × xs_S :=
  if xm_in8 a = true ∧ ¬ p < 0 ∧ ¬ 9999 < p then (if (xs_ac σ (xs_ix a)).1 = true then (2, 0, σ) else (0, 1, xs_sac σ (xs_ix a) (true, p))) else (1, 0, σ)
def xp_connect (σ : xs_S) (c : Int32) : Nat × Int32 × xs_S :=
  if xm_in6 c = true then (if (xs_cn σ (xs_ix c)).1 = 0 then (0, 1, xm_clear (xm_sst σ (xs_ix c) 1) (8 + xs_ix c)) else (2, 0, σ)) else (1, 0, σ)
def xp_login1 (σ : xs_S) (i : Nat) (a : Int32) : xs_S := xm_sch (xm_sacc (xm_sst σ i 2) i a) i (xs_nx σ)
def xp_login (σ : xs_S) (c a : Int32) : Nat × Int32 × xs_S :=
  if xm_in6 c = true ∧ xm_in8 a = true then (if (xs_cn σ (xs_ix c)).1 = 1 then (0, xs_nx σ, xs_sg (xp_login1 σ (xs_ix c) a) (xs_up σ) ((xs_nx σ + 7919) - (xs_nx σ + 7919) / 10000 * 10000) (xs_lt σ)) else (2, 0, σ)) else (1, 0, σ)
def xp_prove (σ : xs_S) (c p : Int32) : Nat × Int32 × xs_S :=
  if xm_in6 c = true then (if (xs_cn σ (xs_ix c)).1 = 2 then (if xm_proof σ (xs_ix c) p = true then (0, 1, xm_sst σ (xs_ix c) 3) else (3, 0, xm_sacc (xm_sst σ (xs_ix c) 1) (xs_ix c) (-1))) else (2, 0, σ)) else (1, 0, σ)
def xp_bind1 (σ : xs_S) (i : Nat) (r : Int32) : xs_S := xm_srs (xm_sst σ i 4) i r
def xp_bind (σ : xs_S) (c r : Int32) : Nat × Int32 × xs_S :=
  if xm_in6 c = true ∧ ¬ r < 0 ∧ ¬ 3 ≤ r then (if (xs_cn σ (xs_ix c)).1 = 3 then (match xm_bw 6 0 σ (xs_cn σ (xs_ix c)).2.1 r with
    | none => (0, 0, xp_bind1 σ (xs_ix c) r)
    | some k => (0, 1, xp_bind1 (xm_shut σ k) (xs_ix c) r)) else (2, 0, σ)) else (1, 0, σ)
def xp_here1 (σ : xs_S) (i : Nat) (p : Int32) : xs_S := xm_stw 8 0 (xm_spr (xm_sav σ i true) i p) (xs_ix (xs_cn σ i).2.1) i 2
def xp_here2 (σ : xs_S) (i : Nat) (p : Int32) : xs_S :=
  if p < 0 then xm_so 8 0 (xp_here1 σ i p) (xs_ix (xs_cn σ i).2.1) i
  else xm_hk (xs_q (xm_so 8 0 (xp_here1 σ i p) (xs_ix (xs_cn σ i).2.1) i) (xs_ix (xs_cn σ i).2.1)).length (xm_so 8 0 (xp_here1 σ i p) (xs_ix (xs_cn σ i).2.1) i) (xs_ix (xs_cn σ i).2.1) i
def xp_here3 (σ : xs_S) (i : Nat) (p : Int32) : xs_S := if (xs_cn σ i).2.2.2.2.2 = true then xp_here1 σ i p else xp_here2 σ i p
def xp_here (σ : xs_S) (c p : Int32) : Nat × Int32 × xs_S :=
  if xm_in6 c = true ∧ ¬ p < (-3) ∧ ¬ 3 < p then (if (xs_cn σ (xs_ix c)).1 = 4 then (0, nI (xs_q (xp_here3 σ (xs_ix c) p) (8 + xs_ix c)).length, xp_here3 σ (xs_ix c) p) else (2, 0, σ)) else (1, 0, σ)
def xp_gone (σ : xs_S) (c : Int32) : Nat × Int32 × xs_S :=
  if xm_in6 c = true then (if (xs_cn σ (xs_ix c)).2.2.2.2.2 = true then (0, 1, xm_stw 8 0 (xm_sav σ (xs_ix c) false) (xs_ix (xs_cn σ (xs_ix c)).2.1) (xs_ix c) 3) else (2, 0, σ)) else (1, 0, σ)
def xp_close (σ : xs_S) (c : Int32) : Nat × Int32 × xs_S :=
  if xm_in6 c = true then (if (xs_cn σ (xs_ix c)).1 = 0 then (2, 0, σ) else (0, (xs_cn σ (xs_ix c)).1, xm_shut σ (xs_ix c))) else (1, 0, σ)
def xp_message (σ : xs_S) (c a r b : Int32) : Nat × Int32 × xs_S :=
  if xm_in6 c = true ∧ xm_in8 a = true ∧ ¬ r < (-1) ∧ ¬ 3 ≤ r then (if (xs_cn σ (xs_ix c)).1 = 4 then (0, 1, xm_send σ (1, (xs_cn σ (xs_ix c)).2.1, (xs_cn σ (xs_ix c)).2.2.1, b, a, r)) else (2, 0, σ)) else (1, 0, σ)
def xp_sub1 (σ : xs_S) (i : Nat) (a k : Int32) : xs_S := if k = 7 ∧ xm_has σ (xs_ix (xs_cn σ i).2.1) (xs_ix a) 2 = true then xm_sp 6 0 σ (xs_cn σ i).2.1 a 3 else σ
def xp_sub2 (σ : xs_S) (i : Nat) (a k : Int32) : xs_S := xm_send (xm_com (xp_sub1 σ i a k) (xs_ix (xs_cn σ i).2.1) (xs_ix a) k) (k, (xs_cn σ i).2.1, -1, 0, a, -1)
def xp_sub3 (σ : xs_S) (i : Nat) (a k : Int32) : xs_S := if k = 5 then xm_sp 6 0 (xp_sub2 σ i a k) (xs_cn σ i).2.1 a 2 else xp_sub2 σ i a k
def xp_subscribe (σ : xs_S) (c a k : Int32) : Nat × Int32 × xs_S :=
  if xm_in6 c = true ∧ xm_in8 a = true ∧ ¬ k < 4 ∧ ¬ 7 < k then (if (xs_cn σ (xs_ix c)).2.1 = a then (1, 0, σ) else if (xs_cn σ (xs_ix c)).1 = 4 then
    (if k = 5 ∧ xm_has σ (xs_ix (xs_cn σ (xs_ix c)).2.1) (xs_ix a) 8 = false then (0, 0, σ) else (0, 1, xp_sub3 σ (xs_ix c) a k)) else (2, 0, σ)) else (1, 0, σ)
def xp_link1 (σ : xs_S) (u : Bool) : xs_S := xs_sg σ u (xs_nx σ) (xs_lt σ)
def xp_link (σ : xs_S) (u : Bool) : Nat × Int32 × xs_S := if u = true then (0, nI (xs_q σ 14).length, xm_lk (xs_q σ 14).length (xp_link1 σ u)) else (0, 0, xp_link1 σ u)
def xp_take (σ : xs_S) (c : Int32) : Nat × Int32 × xs_S :=
  if xm_in6 c = true then (match xs_q σ (8 + xs_ix c) with
    | [] => (4, 0, σ)
    | z :: _ => (0, z.1, xs_sg (xm_pop σ (8 + xs_ix c)) (xs_up σ) (xs_nx σ) (some z))) else (1, 0, σ)
def xp_taken (σ : xs_S) (w : Int32) : Nat × Int32 × xs_S := match xs_lt σ with
  | none => (4, 0, σ)
  | some z => if w = 0 then (0, z.2.1, σ) else if w = 1 then (0, z.2.2.1, σ) else if w = 2 then (0, z.2.2.2.1, σ) else (1, 0, σ)
def xp_roster (σ : xs_S) (a b : Int32) : Nat × Int32 × xs_S := if xm_in8 a = true ∧ xm_in8 b = true then (0, xs_mk σ (xs_ix a) (xs_ix b), σ) else (1, 0, σ)
def xp_connection (σ : xs_S) (c w : Int32) : Nat × Int32 × xs_S :=
  if xm_in6 c = true then (if w = 0 then (0, (xs_cn σ (xs_ix c)).1, σ) else if w = 1 then (0, (xs_cn σ (xs_ix c)).2.1, σ) else if w = 2 then (0, (xs_cn σ (xs_ix c)).2.2.1, σ)
    else if w = 3 then (0, xs_b (xs_cn σ (xs_ix c)).2.2.2.2.2, σ) else if w = 4 then (0, nI (xs_q σ (8 + xs_ix c)).length, σ) else (1, 0, σ)) else (1, 0, σ)
def xp_count (σ : xs_S) (w : Int32) : Nat × Int32 × xs_S :=
  if w = 0 then (0, xm_kall 8 0 σ 0, σ) else if w = 1 then (0, nI (xs_q σ 14).length, σ) else if w = 2 then (0, xm_lall 6 0 σ 0, σ) else if w = 3 then (0, xs_b (xs_up σ), σ)
  else if ¬ w < 4 ∧ ¬ 12 ≤ w then (0, nI (xs_q σ (xs_ix (w - 4))).length, σ) else (1, 0, σ)
end
section
/-! What sending leaves alone: accounts, connections, link, challenges, the stanza taken last. -/
def xm_same (σ τ : xs_S) : Prop := xs_ac τ = xs_ac σ ∧ xs_cn τ = xs_cn σ ∧ xs_up τ = xs_up σ ∧ xs_nx τ = xs_nx σ ∧ xs_lt τ = xs_lt σ
theorem xm_same.rf {σ : xs_S} : xm_same σ σ := ⟨rfl, rfl, rfl, rfl, rfl⟩
theorem xm_same.tr {σ τ υ : xs_S} (h : xm_same σ τ) (k : xm_same τ υ) : xm_same σ υ := ⟨k.1.trans h.1, k.2.1.trans h.2.1, k.2.2.1.trans h.2.2.1, k.2.2.2.1.trans h.2.2.2.1, k.2.2.2.2.trans h.2.2.2.2⟩
theorem xm_same.ite {σ τ : xs_S} {P : Prop} [Decidable P] (h : xm_same σ τ) : xm_same σ (if P then τ else σ) := by
  split
  · exact h
  · exact xm_same.rf
theorem xm_same_sq {σ : xs_S} {n : Nat} {l : List xs_Z} {w : Int32} : xm_same σ (xs_sq σ n l w) := ⟨rfl, rfl, rfl, rfl, rfl⟩
theorem xm_same_smk {σ : xs_S} {a b : Nat} {w : Int32} : xm_same σ (xs_smk σ a b w) := ⟨rfl, rfl, rfl, rfl, rfl⟩
theorem xm_same_add {σ : xs_S} {n : Nat} {z : xs_Z} : xm_same σ (xm_add σ n z) := by
  unfold xm_add
  split <;> exact xm_same_sq
theorem xm_same_pop {σ : xs_S} {n : Nat} : xm_same σ (xm_pop σ n) := xm_same_sq
theorem xm_same_mark {σ : xs_S} {a b : Nat} {w : Int32} : xm_same σ (xm_mark σ a b w) := xm_same_smk
theorem xm_same_drop {σ : xs_S} {a b : Nat} {w : Int32} : xm_same σ (xm_drop σ a b w) := xm_same_smk
theorem xm_same_give (n : Nat) : ∀ {i : Nat} {σ : xs_S} {z : xs_Z}, xm_same σ (xm_give n i σ z) := by
  induction n with
  | zero => intro i σ z; exact xm_same.rf
  | succ n ih => intro i σ z; exact (xm_same_add.ite).tr ih
theorem xm_same_gp (n : Nat) : ∀ {i : Nat} {σ : xs_S} {z : xs_Z} {p : Int32}, xm_same σ (xm_gp n i σ z p) := by
  induction n with
  | zero => intro i σ z p; exact xm_same.rf
  | succ n ih => intro i σ z p; exact (xm_same_add.ite).tr ih
theorem xm_same_err {σ : xs_S} {z : xs_Z} : xm_same σ (xm_err σ z) := xm_same_give 6
theorem xm_same_msg2 {σ : xs_S} {z : xs_Z} : xm_same σ (xm_msg2 σ z) := by
  unfold xm_msg2
  split
  · exact xm_same_gp 6
  · split
    · exact xm_same_add
    · exact xm_same_err
theorem xm_same_msg {σ : xs_S} {z : xs_Z} : xm_same σ (xm_msg σ z) := by
  unfold xm_msg
  split
  · exact xm_same_msg2
  · split
    · exact xm_same_add
    · exact xm_same_msg2
theorem xm_same_grant {σ : xs_S} {z : xs_Z} : xm_same σ (xm_grant σ z) := by
  unfold xm_grant
  split
  · exact (xm_same_mark.tr xm_same_drop).tr (xm_same_give 6)
  · exact xm_same.rf
theorem xm_same_ask {σ : xs_S} {z : xs_Z} : xm_same σ (xm_ask σ z) := by
  unfold xm_ask
  split
  · exact xm_same_grant
  · split
    · exact xm_same_mark.tr (xm_same_give 6)
    · exact xm_same.rf
theorem xm_same_end {σ : xs_S} {z : xs_Z} {w : Int32} : xm_same σ (xm_end σ z w) := by
  unfold xm_end
  split
  · exact xm_same_drop.tr (xm_same_give 6)
  · exact xm_same.rf
theorem xm_same_arr {σ : xs_S} {z : xs_Z} : xm_same σ (xm_arr σ z) := by
  unfold xm_arr
  repeat' split
  all_goals first | exact xm_same_msg | exact xm_same_ask | exact xm_same_grant | exact xm_same_end | exact xm_same_give 6 | exact xm_same.rf
theorem xm_same_send {σ : xs_S} {z : xs_Z} : xm_same σ (xm_send σ z) := by
  unfold xm_send
  repeat' split
  all_goals first | exact xm_same_arr | exact xm_same_add | exact xm_same_err | exact xm_same.rf
theorem xm_same_stw (n : Nat) : ∀ {j : Nat} {σ : xs_S} {a i : Nat} {k : Int32}, xm_same σ (xm_stw n j σ a i k) := by
  induction n with
  | zero => intro j σ a i k; exact xm_same.rf
  | succ n ih => intro j σ a i k; exact (xm_same_send.ite).tr ih
theorem xm_same_sp (n : Nat) : ∀ {i : Nat} {σ : xs_S} {a t k : Int32}, xm_same σ (xm_sp n i σ a t k) := by
  induction n with
  | zero => intro i σ a t k; exact xm_same.rf
  | succ n ih => intro i σ a t k; exact (xm_same_send.ite).tr ih
theorem xm_same_sco (n : Nat) : ∀ {i : Nat} {σ : xs_S} {w : Int32} {c : Nat}, xm_same σ (xm_sco n i σ w c) := by
  induction n with
  | zero => intro i σ w c; exact xm_same.rf
  | succ n ih => intro i σ w c; exact (xm_same_add.ite).tr ih
theorem xm_same_so (n : Nat) : ∀ {j : Nat} {σ : xs_S} {a c : Nat}, xm_same σ (xm_so n j σ a c) := by
  induction n with
  | zero => intro j σ a c; exact xm_same.rf
  | succ n ih => intro j σ a c; exact ((xm_same_sco 6).ite).tr ih
theorem xm_same_hk (n : Nat) : ∀ {σ : xs_S} {a c : Nat}, xm_same σ (xm_hk n σ a c) := by
  induction n with
  | zero => intro σ a c; exact xm_same.rf
  | succ n ih => intro σ a c; exact (xm_same_pop.tr xm_same_add).tr ih
theorem xm_same_com {σ : xs_S} {a b : Nat} {k : Int32} : xm_same σ (xm_com σ a b k) := by
  unfold xm_com
  repeat' split
  all_goals first | exact xm_same.rf | exact xm_same_mark | exact xm_same_drop | exact xm_same_mark.tr xm_same_drop
theorem xm_same_lk (n : Nat) : ∀ {σ : xs_S}, xm_same σ (xm_lk n σ) := by
  induction n with
  | zero => intro σ; exact xm_same.rf
  | succ n ih => intro σ; exact (xm_same_pop.tr xm_same_arr).tr ih
/-- a stanza that may be sent: both its accounts are there -/
def xm_ok (z : xs_Z) : Prop := vp_in z.2.1 8 ∧ vp_in z.2.2.2.2.1 8
def xm_wf (σ : xs_S) : Prop := (∀ i, i < 6 → (xs_cn σ i).2.2.2.2.2 = true → (xs_cn σ i).1 = 4) ∧ (∀ i, i < 6 → ((xs_cn σ i).1 = 2 ∨ (xs_cn σ i).1 = 3 ∨ (xs_cn σ i).1 = 4) → vp_in (xs_cn σ i).2.1 8) ∧ ∀ z, z ∈ xs_q σ 14 → xm_ok z
theorem xs_cn_scn {σ : xs_S} {i : Nat} {v : xs_C} : xs_cn (xs_scn σ i v) i = v := va_up_self _ _ _
theorem xs_nx_scn {σ : xs_S} {i : Nat} {v : xs_C} : xs_nx (xs_scn σ i v) = xs_nx σ := rfl
theorem xs_up_scn {σ : xs_S} {i : Nat} {v : xs_C} : xs_up (xs_scn σ i v) = xs_up σ := rfl
theorem xs_lt_scn {σ : xs_S} {i : Nat} {v : xs_C} : xs_lt (xs_scn σ i v) = xs_lt σ := rfl
theorem xs_q_scn {σ : xs_S} {i : Nat} {v : xs_C} : xs_q (xs_scn σ i v) = xs_q σ := rfl
theorem xs_ac_scn {σ : xs_S} {i : Nat} {v : xs_C} : xs_ac (xs_scn σ i v) = xs_ac σ := rfl
theorem xs_mk_scn {σ : xs_S} {i : Nat} {v : xs_C} : xs_mk (xs_scn σ i v) = xs_mk σ := rfl
theorem xs_ac_sac {σ : xs_S} {i : Nat} {v : Bool × Int32} : xs_ac (xs_sac σ i v) i = v := va_up_self _ _ _
theorem xs_up2 {α : Type} (f : Nat → α) (k : Nat) (v w : α) : va_up (va_up f k v) k w = va_up f k w := by
  funext j
  by_cases h : j = k
  · subst h
    rw [va_up_self, va_up_self]
  · rw [va_up_ne _ _ h, va_up_ne _ _ h, va_up_ne _ _ h]
theorem xs_sac_sac {σ : xs_S} {i : Nat} {v w : Bool × Int32} : xs_sac (xs_sac σ i v) i w = xs_sac σ i w := by
  show (va_up (va_up (xs_ac σ) i v) i w, _) = _
  rw [xs_up2]
  rfl
theorem xs_nx_sg {σ : xs_S} {u : Bool} {n : Int32} {t : Option xs_Z} : xs_nx (xs_sg σ u n t) = n := rfl
theorem xs_up_sg {σ : xs_S} {u : Bool} {n : Int32} {t : Option xs_Z} : xs_up (xs_sg σ u n t) = u := rfl
theorem xs_lt_sg {σ : xs_S} {u : Bool} {n : Int32} {t : Option xs_Z} : xs_lt (xs_sg σ u n t) = t := rfl
theorem xs_cn_sg {σ : xs_S} {u : Bool} {n : Int32} {t : Option xs_Z} : xs_cn (xs_sg σ u n t) = xs_cn σ := rfl
theorem xs_q_sg {σ : xs_S} {u : Bool} {n : Int32} {t : Option xs_Z} : xs_q (xs_sg σ u n t) = xs_q σ := rfl
theorem xm_av_ac {σ : xs_S} {i : Nat} {x : Int32} (h : xm_av σ i x = true) : (xs_cn σ i).2.1 = x := by
  unfold xm_av at h
  rw [Bool.and_eq_true, decide_eq_true_eq] at h
  exact h.2
theorem xm_sav_ac {σ : xs_S} {i : Nat} {b : Bool} : (xs_cn (xm_sav σ i b) i).2.1 = (xs_cn σ i).2.1 := by
  unfold xm_sav
  rw [xs_cn_scn]
theorem xm_q_sq_ne {σ : xs_S} {n k : Nat} {l : List xs_Z} {w : Int32} (h : k ≠ n) : xs_q (xs_sq σ n l w) k = xs_q σ k := va_up_ne _ _ h
theorem xm_q_add_ne {σ : xs_S} {n k : Nat} {z : xs_Z} (h : k ≠ n) : xs_q (xm_add σ n z) k = xs_q σ k := by
  unfold xm_add
  split <;> exact xm_q_sq_ne h
theorem xm_q_pop {σ : xs_S} {n : Nat} : xs_q (xm_pop σ n) n = (xs_q σ n).tail := va_up_self _ _ _
theorem xm_ne {l : List xs_Z} {n : Nat} (h : l.length = n + 1) : ∃ z t, l = z :: t := by
  cases l with
  | nil => cases h
  | cons z t => exact ⟨z, t, rfl⟩
theorem xm_q14_give (n : Nat) : ∀ {i : Nat} {σ : xs_S} {z : xs_Z}, i + n ≤ 6 → xs_q (xm_give n i σ z) 14 = xs_q σ 14 := by
  induction n with
  | zero => intro i σ z _; rfl
  | succ n ih =>
    intro i σ z h
    show xs_q (xm_give n (i + 1) _ z) 14 = _
    rw [ih (by omega)]
    split
    · exact xm_q_add_ne (by omega)
    · rfl
theorem xm_q14_gp (n : Nat) : ∀ {i : Nat} {σ : xs_S} {z : xs_Z} {p : Int32}, i + n ≤ 6 → xs_q (xm_gp n i σ z p) 14 = xs_q σ 14 := by
  induction n with
  | zero => intro i σ z p _; rfl
  | succ n ih =>
    intro i σ z p h
    show xs_q (xm_gp n (i + 1) _ z p) 14 = _
    rw [ih (by omega)]
    split
    · exact xm_q_add_ne (by omega)
    · rfl
theorem xm_bw_lt (n : Nat) : ∀ {i k : Nat} {σ : xs_S} {a r : Int32}, xm_bw n i σ a r = some k → k < i + n := by
  induction n with
  | zero => intro i k σ a r h; cases h
  | succ n ih =>
    intro i k σ a r h
    unfold xm_bw at h
    split at h
    · cases h; omega
    · have := ih h; omega
theorem xm_q14_msg2 {σ : xs_S} {z : xs_Z} (h : xm_ok z) : xs_q (xm_msg2 σ z) 14 = xs_q σ 14 := by
  unfold xm_msg2
  have := xs_ixl h.2
  split
  · exact xm_q14_gp 6 (by decide)
  · split
    · exact xm_q_add_ne (by omega)
    · exact xm_q14_give 6 (by decide)
theorem xm_q14_msg {σ : xs_S} {z : xs_Z} (h : xm_ok z) : xs_q (xm_msg σ z) 14 = xs_q σ 14 := by
  unfold xm_msg
  split
  · exact xm_q14_msg2 h
  · rename_i i hi
    have := xm_bw_lt 6 hi
    split
    · exact xm_q_add_ne (by omega)
    · exact xm_q14_msg2 h
theorem xm_q14_grant {σ : xs_S} {z : xs_Z} : xs_q (xm_grant σ z) 14 = xs_q σ 14 := by
  unfold xm_grant
  split
  · exact xm_q14_give 6 (by decide)
  · rfl
theorem xm_q14_arr {σ : xs_S} {z : xs_Z} (h : xm_ok z) : xs_q (xm_arr σ z) 14 = xs_q σ 14 := by
  unfold xm_arr
  split
  · exact xm_q14_msg h
  · split
    · unfold xm_ask
      split
      · exact xm_q14_grant
      · split
        · exact xm_q14_give 6 (by decide)
        · rfl
    · split
      · exact xm_q14_grant
      · split
        · unfold xm_end
          split
          · exact xm_q14_give 6 (by decide)
          · rfl
        · split
          · unfold xm_end
            split
            · exact xm_q14_give 6 (by decide)
            · rfl
          · split
            · split
              · exact xm_q14_give 6 (by decide)
              · rfl
            · rfl
end
section
/-! Rows over one cell at a time: what is read, what is written, what else stays. -/
section XB
variable {p : Program} {l : Launch} {e : Env} {R : Room} {s : State} {m : MethodId} {args : Array Value} {below : List Frame} {meth : Method} {c : Code} {H : Heap} {locs : List Loc} {cells slots : Nat} {Q : State → Prop}
variable {cc : ByteArray} {pc : Nat} {ls : Array Slot} {rest : List Value} {D : va_G} {cl : List vw_C} {a : Nat} {tys : List (ClassId × FieldType)}
theorem xb_one {q : Nat × va_E} (h : va_at D cl q H) : va_P D cl [q] H := by
  intro k x hx
  cases k with
  | zero => cases hx; exact h
  | succ k => simp at hx
theorem xb_get (hexec : p.tables.exec = Jvm.exec) (hb : c.code = cc) {own ref C : String} {T : u_T} {N ci index : Nat} {Ts : List Cond} (hts : ∀ w ∈ Ts, w.before args s = true) (hin : ∀ w ∈ u_ws C T N, w ∈ Ts) (hown : s.vm.findClass own = some m.cls) (hK : va_K D cl tys s) (hc : cl[ci]? = some (C, T, N)) (k : Nat) (hk : k < N) (hlink : (Cond.fieldLink own index ref (T k).2.1 (T k).2.2.1).before args s = true) (hsame : (T k).1 = ref) {fs : List Value} (hat : va_at D cl (a, .inr (ci, fs)) H) {v : Value} (hv : fs[k]? = some v) (hdg : decode cc pc = .ok (.getfield index, 3))
    (kk : W p l e R s m args below meth c H locs cells slots Q (F0 m (pc + 3) ls (v :: rest))) : W p l e R s m args below meth c H locs cells slots Q (F0 m pc ls (.ref a :: rest)) :=
  va_get hexec hb hts hin hown hK (xb_one hat) 0 rfl hc k hk hlink (fun x h => by rw [← hsame]; exact h) hv hdg kk
theorem xb_put (hexec : p.tables.exec = Jvm.exec) (hb : c.code = cc) {own ref C : String} {T : u_T} {N ci index : Nat} {Ts : List Cond} (hts : ∀ w ∈ Ts, w.before args s = true) (hin : ∀ w ∈ u_ws C T N, w ∈ Ts) (ty0 : Nat → FieldType) (hty : ∀ k, k < N → parseFieldDescriptor (T k).2.2.1 = some (ty0 k)) (hnm : ∀ a, a < N → ∀ b, b < N → a ≠ b → (T a).2.1 ≠ (T b).2.1) (hown : s.vm.findClass own = some m.cls) (hK : va_K D cl tys s) (hc : cl[ci]? = some (C, T, N)) (k : Nat) (hk : k < N) (hlink : (Cond.fieldLink own index ref (T k).2.1 (T k).2.2.1).before args s = true) (hsame : (T k).1 = ref) (hfin : (T k).2.2.2 = false) {fs : List Value} (hat : va_at D cl (a, .inr (ci, fs)) H) {v : Value} (hn : narrow (ty0 k) v = v) (hfit : fits (ty0 k) v = true) (hl : k < fs.length) (hdg : decode cc pc = .ok (.putfield index, 3))
    (kk : ∀ (H1 : Heap) (lc : Loc), lc.base = a → va_at D cl (a, .inr (ci, fs.set k v)) H1 → H1.size = H.size → (∀ q : Nat, q ≠ a → H1[q]? = H[q]?) → W p l e R s m args below meth c H1 (locs ++ [lc]) cells slots Q (F0 m (pc + 3) ls rest)) : W p l e R s m args below meth c H locs cells slots Q (F0 m pc ls (v :: .ref a :: rest)) := by
  have hap := va_apart (own := own) hts hin ty0 hty hnm hK hc
  obtain ⟨r, h1, cell, q1, q2, q3, q4⟩ := hat
  have hr : r = (C, T, N) := Option.some.inj (h1.symm.trans hc)
  subst hr
  obtain ⟨hS, hfc, kC, hkC, hkind⟩ := hK.1 ci _ hc
  obtain ⟨cf, kf, fi, f, hi, hsl⟩ := hS k hk
  have hlay := hts _ (hin _ (u_in_lay hk))
  unfold u_lay at hlay
  rw [if_neg (by rw [hfin]; decide)] at hlay
  have hst := (u_facts hfc hkC (u_lays hts hin hk) hi).1
  have h6 := u_store hfc hkC hkind hlay hi (hty k hk) hn hfit
  refine W.putK hexec hb (f := f) ⟨hown, hlink, ⟨_, _, _, by rw [← hsame]; exact hi⟩, hst⟩ (by rw [q2]; exact h6) q1 q3 (by rw [hsl]; exact k2_hasslot (q4 k hk)) rfl rfl hdg fun H' e1 e2 e3 => ?_
  rw [hsl] at e1 ⊢
  exact kk H' _ rfl ⟨_, hc, t_OB.to (V := updV (vp_V fs) k v) ⟨_, e1, q2, q3, t_set q4 hap hk v⟩ (fun j _ => vp_updV_set hl v j)⟩ e2 e3
theorem xb_putF (hexec : p.tables.exec = Jvm.exec) (hb : c.code = cc) {own ref C : String} {T : u_T} {N ci index : Nat} {Ts : List Cond} (hts : ∀ w ∈ Ts, w.before args s = true) (hin : ∀ w ∈ u_ws C T N, w ∈ Ts) (ty0 : Nat → FieldType) (hty : ∀ k, k < N → parseFieldDescriptor (T k).2.2.1 = some (ty0 k)) (hnm : ∀ a, a < N → ∀ b, b < N → a ≠ b → (T a).2.1 ≠ (T b).2.1) (hown : s.vm.findClass own = some m.cls) (hK : va_K D cl tys s) (hc : cl[ci]? = some (C, T, N)) (k : Nat) (hk : k < N) (hlink : (Cond.fieldLink own index ref (T k).2.1 (T k).2.2.1).before args s = true) (hsame : (T k).1 = ref) (hfin : (T k).2.2.2 = true) (hin2 : meth.name = "<init>") (hdecl : (T k).1 = own) {fs : List Value} (hat : va_at D cl (a, .inr (ci, fs)) H) {v : Value} (hn : narrow (ty0 k) v = v) (hfit : fits (ty0 k) v = true) (hl : k < fs.length) (hdg : decode cc pc = .ok (.putfield index, 3))
    (kk : ∀ (H1 : Heap) (lc : Loc), lc.base = a → va_at D cl (a, .inr (ci, fs.set k v)) H1 → H1.size = H.size → (∀ q : Nat, q ≠ a → H1[q]? = H[q]?) → W p l e R s m args below meth c H1 (locs ++ [lc]) cells slots Q (F0 m (pc + 3) ls rest)) : W p l e R s m args below meth c H locs cells slots Q (F0 m pc ls (v :: .ref a :: rest)) := by
  have hap := va_apart (own := own) hts hin ty0 hty hnm hK hc
  obtain ⟨r, h1, cell, q1, q2, q3, q4⟩ := hat
  have hr : r = (C, T, N) := Option.some.inj (h1.symm.trans hc)
  subst hr
  obtain ⟨hS, hfc, kC, hkC, hkind⟩ := hK.1 ci _ hc
  obtain ⟨cf, kf, fi, f, hi, hsl⟩ := hS k hk
  have hlay := hts _ (hin _ (u_in_lay hk))
  unfold u_lay at hlay
  rw [if_pos hfin] at hlay
  have hst := (u_facts hfc hkC (u_lays hts hin hk) hi).1
  have hcf : m.cls = cf := by
    obtain ⟨_, _, c', _, _, _, -, -, hf', -, -, -, hown2, -⟩ := Cond.laysFinal_spec hlay
    have e1 : c' = cf := by have := hi.symm.trans hf'; simp at this; exact this.1.symm
    rw [hdecl] at hown2
    rw [← e1]; exact Option.some.inj (hown.symm.trans hown2)
  have h6 := u_fits hfc hkC hkind (Or.inr hlay) hi (hty k hk) hn hfit
  refine W.putFinK hexec hb hown hlink (by rw [← hsame]; exact hi) hst hcf hin2 (by rw [q2]; exact h6) q1 q3 (by rw [hsl]; exact k2_hasslot (q4 k hk)) rfl rfl hdg fun H' e1 e2 e3 => ?_
  rw [hsl] at e1 ⊢
  exact kk H' _ rfl ⟨_, hc, t_OB.to (V := updV (vp_V fs) k v) ⟨_, e1, q2, q3, t_set q4 hap hk v⟩ (fun j _ => vp_updV_set hl v j)⟩ e2 e3
theorem xb_new (hexec : p.tables.exec = Jvm.exec) (hb : c.code = cc) {own C : String} {T : u_T} {N ci index : Nat} {Ts : List Cond} (hts : ∀ w ∈ Ts, w.before args s = true) (hin : ∀ w ∈ u_ws C T N, w ∈ Ts) (ty : Nat → FieldType) (hty : ∀ k, k < N → parseFieldDescriptor (T k).2.2.1 = some (ty k)) (hown : s.vm.findClass own = some m.cls) (hcl : (Cond.classLink own index C).before args s = true) (hinst : (Cond.instantiable C N).before args s = true) (hini : (Cond.initialized C).before args s = true)
    (hK : va_K D cl tys s) (hc : cl[ci]? = some (C, T, N)) {fs : List Value} (hfs : ∀ j, j < N → defaultValue (ty j) = vp_V fs j) (hcells : cells + 1 ≤ R.cells) (hslots : slots + N ≤ R.slots) (hdg : decode cc pc = .ok (.new index, 3))
    (kk : ∀ (H1 : Heap), va_at D cl (H.size, .inr (ci, fs)) H1 → H1.size = H.size + 1 → (∀ q : Nat, q < H.size → H1[q]? = H[q]?) →
      W p l e R s m args below meth c H1 locs (cells + 1) (slots + N) Q (F0 m (pc + 3) ls (.ref H.size :: rest))) : W p l e R s m args below meth c H locs cells slots Q (F0 m pc ls rest) := by
  have hKn := hK.1 ci _ hc
  refine W.newcK hexec hb hown hcl hinst hini rfl hdg hcells hslots hKn.2.1 rfl fun H1 kC hkC e1 z1 o1 => ?_
  exact kk H1 ⟨_, hc, (u_born ty hts hin hKn hkC e1 hty).to hfs⟩ z1 o1
theorem xb_aald (hexec : p.tables.exec = Jvm.exec) (hb : c.code = cc) (hK : va_K D cl tys s) (t0 : Nat) {cA : ClassId} {C : String} {n : Nat} {f : Nat → Option Nat} (ht : tys[t0]? = some (cA, .object C)) (hat : va_at D cl (a, .inl (cA, n, .inr (.inr (.inr (.inr f))))) H) {i : Int32} (hin : vp_in i n) {v : Nat} (hv : f i.toNatClampNeg = some v) (hdg : decode cc pc = .ok (.aaload, 1))
    (kk : W p l e R s m args below meth c H locs cells slots Q (F0 m (pc + 1) ls (.ref v :: rest))) : W p l e R s m args below meth c H locs cells slots Q (F0 m pc ls (.int i :: .ref a :: rest)) :=
  va_aldq hexec hb hK (xb_one hat) 0 t0 rfl ht hin hdg (by rw [hv]; exact kk)
theorem xb_iald (hexec : p.tables.exec = Jvm.exec) (hb : c.code = cc) (hK : va_K D cl tys s) (t0 : Nat) {cA : ClassId} {n : Nat} {f : Nat → Int32} (ht : tys[t0]? = some (cA, .int)) (hat : va_at D cl (a, .inl (cA, n, .inl f)) H) {i : Int32} (hin : vp_in i n) (hdg : decode cc pc = .ok (.iaload, 1))
    (kk : W p l e R s m args below meth c H locs cells slots Q (F0 m (pc + 1) ls (.int (f i.toNatClampNeg) :: rest))) : W p l e R s m args below meth c H locs cells slots Q (F0 m pc ls (.int i :: .ref a :: rest)) :=
  va_iald hexec hb hK (xb_one hat) 0 t0 rfl ht hin hdg kk
theorem xb_alen (hexec : p.tables.exec = Jvm.exec) (hb : c.code = cc) (hK : va_K D cl tys s) (t0 : Nat) {cA : ClassId} {x : vp_A} {ty : FieldType} (ht : tys[t0]? = some (cA, ty)) (hat : va_at D cl (a, .inl (cA, x)) H) (hdg : decode cc pc = .ok (.arraylength, 1))
    (kk : W p l e R s m args below meth c H locs cells slots Q (F0 m (pc + 1) ls (.int (nI x.1) :: rest))) : W p l e R s m args below meth c H locs cells slots Q (F0 m pc ls (.ref a :: rest)) :=
  va_alen hexec hb hK (xb_one hat) 0 t0 rfl ht rfl hdg kk
theorem xb_iast (hexec : p.tables.exec = Jvm.exec) (hb : c.code = cc) (hK : va_K D cl tys s) (t0 : Nat) {cA : ClassId} {n : Nat} {f : Nat → Int32} (ht : tys[t0]? = some (cA, .int)) (hat : va_at D cl (a, .inl (cA, n, .inl f)) H) {i : Int32} {x : Int32} (hin : vp_in i n) (hdg : decode cc pc = .ok (.iastore, 1))
    (kk : ∀ (H1 : Heap) (lc : Loc), lc.base = a → va_at D cl (a, .inl (cA, n, .inl (upd f i.toNatClampNeg x))) H1 → H1.size = H.size → (∀ q : Nat, q ≠ a → H1[q]? = H[q]?) → W p l e R s m args below meth c H1 (locs ++ [lc]) cells slots Q (F0 m (pc + 1) ls rest)) : W p l e R s m args below meth c H locs cells slots Q (F0 m pc ls (.int x :: .int i :: .ref a :: rest)) := by
  refine W.iast hexec hb hat ((hK.2 t0 _ ht).1 n (fun j => .int (f j))) (fun q => by cases q) (by show ¬ (i < 0 ∨ (arrV _ _ _).slots.size ≤ _); rw [arrV_size]; exact hin) rfl rfl hdg fun H1 e z oq => ?_
  refine kk H1 _ rfl ?_ z oq
  show H1[a]? = some (vp_cell _ _)
  rw [e]
  rw [vp_cell_i, vp_cell_i, arrV_store]
  congr 2
  funext q
  by_cases hq : q = i.toNatClampNeg
  · subst hq
    simp [updV, upd]
  · simp [updV, upd, hq]
theorem xb_aast (hexec : p.tables.exec = Jvm.exec) (hb : c.code = cc) (hK : va_K D cl tys s) (t0 ci : Nat) {cA : ClassId} {r : vw_C} {n v : Nat} {vs : List Value} {f : Nat → Option Nat} (ht : tys[t0]? = some (cA, .object r.1)) (hc : cl[ci]? = some r) (hat : va_at D cl (a, .inl (cA, n, .inr (.inr (.inr (.inr f))))) H) (hv : va_at D cl (v, .inr (ci, vs)) H) {i : Int32} (hin : vp_in i n) (hdg : decode cc pc = .ok (.aastore, 1))
    (kk : ∀ (H1 : Heap) (lc : Loc), lc.base = a → va_at D cl (a, .inl (cA, n, .inr (.inr (.inr (.inr (va_up f i.toNatClampNeg (some v))))))) H1 → H1.size = H.size → (∀ q : Nat, q ≠ a → H1[q]? = H[q]?) → W p l e R s m args below meth c H1 (locs ++ [lc]) cells slots Q (F0 m (pc + 1) ls rest)) : W p l e R s m args below meth c H locs cells slots Q (F0 m pc ls (.ref v :: .int i :: .ref a :: rest)) := by
  have hlt : i.toNatClampNeg < n := Nat.not_le.mp fun q => hin (Or.inr q)
  have h0 : ¬ i < 0 := fun q => hin (Or.inl q)
  obtain ⟨r', hr', cellV, g1, g2, g3, -⟩ := hv
  have hcls := (hK.1 ci r hc).2
  obtain ⟨kA, comp, k1, k2, k3, -⟩ := (hK.2 t0 _ ht).2
  have hcomp : comp = D.1 ci := Option.some.inj (k3.symm.trans hcls.1)
  subst hcomp
  obtain ⟨kC, hkC, -⟩ := hcls.2
  refine W.aast hexec hb hat (fun q h => by cases h) (fun h => by cases h) k1 k2 rfl hkC ⟨h0, by show _ < (arrV _ _ _).slots.size; rw [arrV_size]; exact hlt⟩ g1 (fun q h => by rw [g3] at h; cases h) (by rw [g2]; exact hkC) (by rw [g2]; exact va_assign hcls) rfl rfl hdg fun H1 e z oq => ?_
  refine kk H1 _ rfl ?_ z oq
  show H1[a]? = some (vp_cell _ _)
  rw [e]
  rw [vp_cell_q, vp_cell_q, arrV_store]
  congr 2
  funext q
  by_cases hq : q = i.toNatClampNeg
  · subst hq
    simp [updV, va_up, va_rf]
  · simp [updV, va_up, hq]
theorem xb_anew (hexec : p.tables.exec = Jvm.exec) (hb : c.code = cc) {own C : String} {index : Nat} (hown : s.vm.findClass own = some m.cls) (hclink : (Cond.classLink own index C).before args s = true) (hover : (Cond.arrayOver (.object C)).before args s = true) (hK : va_K D cl tys s) (t0 : Nat) {cA : ClassId} (ht : tys[t0]? = some (cA, .object C))
    {n : Int32} {N' : Nat} (hn : ¬ n < 0) (hN : n.toNatClampNeg = N') (hbytes : N' * 4 ≤ 536870912) (hcells : cells + 1 ≤ R.cells) (hslots : slots + N' ≤ R.slots) (hdg : decode cc pc = .ok (.anewarray index, 3))
    (kk : ∀ (H1 : Heap), va_at D cl (H.size, .inl (cA, N', .inr (.inr (.inr (.inr (fun _ => none)))))) H1 → H1.size = H.size + 1 → (∀ q : Nat, q < H.size → H1[q]? = H[q]?) →
      W p l e R s m args below meth c H1 locs (cells + 1) (slots + N') Q (F0 m (pc + 3) ls (.ref H.size :: rest))) : W p l e R s m args below meth c H locs cells slots Q (F0 m pc ls (.int n :: rest)) := by
  subst hN
  refine W.anew hexec hb hown hclink hover rfl hdg rfl hn hbytes hcells hslots fun cA' kA comp f1 f2 f3 f4 => ?_
  obtain ⟨_, _, k1, k2, k3, k4⟩ := (hK.2 t0 _ ht).2
  cases Option.some.inj (k4.symm.trans f1)
  generalize hH1 : H.push ({ cls := cA, slots := Array.replicate n.toNatClampNeg .null, vm := .none } : Cell) = H1
  have z1 : H1.size = H.size + 1 := by rw [← hH1, Array.size_push]
  have e1 : H1[H.size]? = some (arrV cA n.toNatClampNeg (fun _ => .null)) := by rw [← hH1, Array.getElem?_push_size, ← arrV_new]
  have o1 : ∀ q : Nat, q < H.size → H1[q]? = H[q]? := fun q hq => by rw [← hH1, Array.getElem?_push, if_neg (Nat.ne_of_lt hq)]
  refine kk H1 ?_ z1 o1
  show H1[H.size]? = some (vp_cell _ _)
  rw [vp_cell_q]
  exact e1
theorem xb_newa (hexec : p.tables.exec = Jvm.exec) (hb : c.code = cc) (harr : (Cond.arrayClass .int).before args s = true) (hK : va_K D cl tys s) (t0 : Nat) {cA : ClassId} (ht : tys[t0]? = some (cA, .int))
    {n : Int32} {N' : Nat} (hn : ¬ n < 0) (hN : n.toNatClampNeg = N') (hbytes : N' * componentBytes .int ≤ 536870912) (hcells : cells + 1 ≤ R.cells) (hslots : slots + N' ≤ R.slots) (hdg : decode cc pc = .ok (.newarray .int, 2))
    (kk : ∀ (H1 : Heap), va_at D cl (H.size, .inl (cA, N', .inl (fun _ => 0))) H1 → H1.size = H.size + 1 → (∀ q : Nat, q < H.size → H1[q]? = H[q]?) →
      W p l e R s m args below meth c H1 locs (cells + 1) (slots + N') Q (F0 m (pc + 2) ls (.ref H.size :: rest))) : W p l e R s m args below meth c H locs cells slots Q (F0 m pc ls (.int n :: rest)) := by
  refine va_newaK (atype := .int) (g := F0 m pc ls (.int n :: rest)) (n := n) (N := N') (rest := rest) (h := H.size) hexec hb harr rfl hdg rfl hn hN hbytes hcells hslots rfl (fun H1 cA' e1 z1 o1 hAr hNm => ?_)
  have k4 := (hK.2 t0 _ ht).2
  cases Option.some.inj ((show s.vm.findClass ("[" ++ FieldType.int.toString) = some cA from k4).symm.trans hNm)
  exact kk H1 e1 z1 o1
theorem xb_recv {ci : Nat} {q : vw_C} {fs : List Value} (hK : va_K D cl tys s) (hc : cl[ci]? = some q) (hat : va_at D cl (a, .inr (ci, fs)) H) : ∃ cell : Cell, H[a]? = some cell ∧ cell.vm.isStatics = false ∧ s.vm.findClass q.1 = some cell.cls :=
  va_recv (q0 := 0) hK (xb_one hat) hc rfl
end XB
/-! Ends and calls: one form for all answers. -/
def xb_Q (B : Value → State → Prop) (A : Nat → Prop) : Array Value → State → Outcome → State → Prop := fun _ st oc t => (∃ v : Value, oc = .returned (some v) ∧ B v t) ∧ va_F A st t
def xb_V (B : State → Prop) (A : Nat → Prop) : Array Value → State → Outcome → State → Prop := fun _ st oc t => (oc = .returned none ∧ B t) ∧ va_F A st t
section XC
variable {p : Program} {l : Launch} {e : Env} {R : Room} {s : State} {m : MethodId} {args : Array Value} {below : List Frame} {meth : Method} {c : Code} {H : Heap} {locs : List Loc} {cells slots : Nat} {Q : State → Prop}
variable {pc : Nat} {ls : Array Slot} {rest st0 : List Value} {a : Array Value} {A0 A1 : Nat → Prop} {H0 : Heap} {mc ms : Nat} {free : Addr → Prop}
theorem xb_keep {st₀ t T' : State} {L : List Loc} (h0 : st₀.heap = H) (e1 : T'.heap = t.heap) (hS : va_S A0 H0 H locs) (hA : ∀ q, A1 q → A0 q) (hf : ∀ q, free q → A0 q) (hL : ∀ q ∈ L, free q.base) (hF : va_F A1 st₀ t) :
    H.size ≤ T'.heap.size ∧ (∀ q : Nat, q < H.size → ¬ A1 q → T'.heap[q]? = H[q]?) ∧ va_S A0 H0 T'.heap (locs ++ L) := by
  obtain ⟨hz, hk⟩ := hF
  rw [h0] at hz hk
  exact ⟨by rw [e1]; exact hz, fun q h1 h2 => by rw [e1]; exact hk q h1 h2,
    ⟨Nat.le_trans hS.1 (by rw [e1]; exact hz), fun q h1 h2 => by rw [e1, hk q (Nat.lt_of_lt_of_le h1 hS.1) (fun z => h2 (hA q z))]; exact hS.2.1 q h1 h2, fun q hq => by
      rcases List.mem_append.mp hq with h | h
      · exact hS.2.2 q h
      · exact hf _ (hL q h)⟩⟩
theorem xb_callq {B : Value → State → Prop} (hr : va_Run p l e R s m args below meth c H locs cells slots mc ms (F0 m pc ls st0) rest (xb_Q B A1 a) free) (hS : va_S A0 H0 H locs) (hA : ∀ q, A1 q → A0 q) (hf : ∀ q, free q → A0 q)
    (kk : ∀ (v : Value) (t : State) (locs1 : List Loc), s.vm.Alike t.vm → B v t → H.size ≤ t.heap.size → (∀ q : Nat, q < H.size → ¬ A1 q → t.heap[q]? = H[q]?) → va_S A0 H0 t.heap locs1 → W p l e R s m args below meth c t.heap locs1 (cells + mc) (slots + ms) Q (F0 m (pc + 3) ls (v :: rest))) : W p l e R s m args below meth c H locs cells slots Q (F0 m pc ls st0) := by
  intro T hT X
  obtain ⟨v, st₀, t, T', L, h0, X', hL, e1, e2, ⟨⟨v', hv, hb⟩, hF⟩, st⟩ := hr T hT X
  cases hv
  obtain ⟨k1, k2, k3⟩ := xb_keep h0 e1 hS hA hf hL hF
  rw [e1] at k1 k2 k3
  obtain ⟨t2, a1, b1⟩ := kk v' t (locs ++ L) (by rw [← e2]; exact X'.warmed.alike) hb k1 k2 k3 T' e1 X'
  exact ⟨t2, st t2 a1, b1⟩
theorem xb_callv {B : State → Prop} (hr : va_Run p l e R s m args below meth c H locs cells slots mc ms (F0 m pc ls st0) rest (xb_V B A1 a) free) (hS : va_S A0 H0 H locs) (hA : ∀ q, A1 q → A0 q) (hf : ∀ q, free q → A0 q)
    (kk : ∀ (t : State) (locs1 : List Loc), s.vm.Alike t.vm → B t → H.size ≤ t.heap.size → (∀ q : Nat, q < H.size → ¬ A1 q → t.heap[q]? = H[q]?) → va_S A0 H0 t.heap locs1 → W p l e R s m args below meth c t.heap locs1 (cells + mc) (slots + ms) Q (F0 m (pc + 3) ls rest)) : W p l e R s m args below meth c H locs cells slots Q (F0 m pc ls st0) := by
  intro T hT X
  obtain ⟨v, st₀, t, T', L, h0, X', hL, e1, e2, ⟨⟨hv, hb⟩, hF⟩, st⟩ := hr T hT X
  cases hv
  obtain ⟨k1, k2, k3⟩ := xb_keep h0 e1 hS hA hf hL hF
  rw [e1] at k1 k2 k3
  obtain ⟨t2, a1, b1⟩ := kk t (locs ++ L) (by rw [← e2]; exact X'.warmed.alike) hb k1 k2 k3 T' e1 X'
  exact ⟨t2, st t2 a1, b1⟩
end XC
end
