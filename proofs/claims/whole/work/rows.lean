section
-- ===== PART A: goes FIRST, ahead of the names: the tables' words, and 'selects' of the private methods out of them =====
/-- a private method of a class that the tables say can be made, by its rows of tables_1 -/
def lw_okq (q : MethodName × Nat) : Prop := (q.1.cls ≠ "java/lang/invoke/MethodHandle" ∧ q.1.cls ≠ "java/lang/invoke/VarHandle") ∧ Cond.instantiable q.1.cls q.2 ∈ tables_1 ∧ Cond.privateMethod q.1 ∈ tables_1 ∧ Cond.instanceMethod q.1 ∈ tables_1
theorem lw_p0 : lw_okq (⟨"ServiceRows2", "findIdentifier", "(I)LServiceRows2$Identifier;"⟩, 16) := ⟨⟨by decide +kernel, by decide +kernel⟩, List.mem_of_getElem? (i := 15) (by decide +kernel), List.mem_of_getElem? (i := 144) (by decide +kernel), List.mem_of_getElem? (i := 145) (by decide +kernel)⟩
theorem lw_p1 : lw_okq (⟨"ServiceRows2", "hasRoomForIdentifier", "()Z"⟩, 16) := ⟨⟨by decide +kernel, by decide +kernel⟩, List.mem_of_getElem? (i := 15) (by decide +kernel), List.mem_of_getElem? (i := 148) (by decide +kernel), List.mem_of_getElem? (i := 149) (by decide +kernel)⟩
theorem lw_p2 : lw_okq (⟨"ServiceRows2", "addIdentifier", "(LServiceRows2$Identifier;)V"⟩, 16) := ⟨⟨by decide +kernel, by decide +kernel⟩, List.mem_of_getElem? (i := 15) (by decide +kernel), List.mem_of_getElem? (i := 200) (by decide +kernel), List.mem_of_getElem? (i := 201) (by decide +kernel)⟩
theorem lw_p3 : lw_okq (⟨"ServiceRows2", "findRoutine", "(I)LServiceRows2$Routine;"⟩, 16) := ⟨⟨by decide +kernel, by decide +kernel⟩, List.mem_of_getElem? (i := 15) (by decide +kernel), List.mem_of_getElem? (i := 216) (by decide +kernel), List.mem_of_getElem? (i := 217) (by decide +kernel)⟩
theorem lw_p4 : lw_okq (⟨"ServiceRows2", "conclude", "(LServiceRows2$Question;)V"⟩, 16) := ⟨⟨by decide +kernel, by decide +kernel⟩, List.mem_of_getElem? (i := 15) (by decide +kernel), List.mem_of_getElem? (i := 276) (by decide +kernel), List.mem_of_getElem? (i := 277) (by decide +kernel)⟩
theorem lw_p5 : lw_okq (⟨"ServiceRows2", "serve", "(LServiceRows2$Question;)I"⟩, 16) := ⟨⟨by decide +kernel, by decide +kernel⟩, List.mem_of_getElem? (i := 15) (by decide +kernel), List.mem_of_getElem? (i := 284) (by decide +kernel), List.mem_of_getElem? (i := 285) (by decide +kernel)⟩
theorem lw_p6 : lw_okq (⟨"ServiceRows2", "changeSession", "(LServiceRows2$Question;)I"⟩, 16) := ⟨⟨by decide +kernel, by decide +kernel⟩, List.mem_of_getElem? (i := 15) (by decide +kernel), List.mem_of_getElem? (i := 296) (by decide +kernel), List.mem_of_getElem? (i := 297) (by decide +kernel)⟩
theorem lw_p7 : lw_okq (⟨"ServiceRows2", "endSession", "(I)V"⟩, 16) := ⟨⟨by decide +kernel, by decide +kernel⟩, List.mem_of_getElem? (i := 15) (by decide +kernel), List.mem_of_getElem? (i := 312) (by decide +kernel), List.mem_of_getElem? (i := 313) (by decide +kernel)⟩
theorem lw_p8 : lw_okq (⟨"ServiceRows2", "beginReply", "(LServiceRows2$Question;)V"⟩, 16) := ⟨⟨by decide +kernel, by decide +kernel⟩, List.mem_of_getElem? (i := 15) (by decide +kernel), List.mem_of_getElem? (i := 324) (by decide +kernel), List.mem_of_getElem? (i := 325) (by decide +kernel)⟩
theorem lw_p9 : lw_okq (⟨"ServiceRows2", "reset", "(LServiceRows2$Question;)I"⟩, 16) := ⟨⟨by decide +kernel, by decide +kernel⟩, List.mem_of_getElem? (i := 15) (by decide +kernel), List.mem_of_getElem? (i := 332) (by decide +kernel), List.mem_of_getElem? (i := 333) (by decide +kernel)⟩
theorem lw_p10 : lw_okq (⟨"ServiceRows2", "forgetRoutines", "()V"⟩, 16) := ⟨⟨by decide +kernel, by decide +kernel⟩, List.mem_of_getElem? (i := 15) (by decide +kernel), List.mem_of_getElem? (i := 336) (by decide +kernel), List.mem_of_getElem? (i := 337) (by decide +kernel)⟩
theorem lw_p11 : lw_okq (⟨"ServiceRows2", "clearOwnValues", "()V"⟩, 16) := ⟨⟨by decide +kernel, by decide +kernel⟩, List.mem_of_getElem? (i := 15) (by decide +kernel), List.mem_of_getElem? (i := 344) (by decide +kernel), List.mem_of_getElem? (i := 345) (by decide +kernel)⟩
theorem lw_p12 : lw_okq (⟨"ServiceRows2", "read", "(LServiceRows2$Question;)I"⟩, 16) := ⟨⟨by decide +kernel, by decide +kernel⟩, List.mem_of_getElem? (i := 15) (by decide +kernel), List.mem_of_getElem? (i := 348) (by decide +kernel), List.mem_of_getElem? (i := 349) (by decide +kernel)⟩
theorem lw_p13 : lw_okq (⟨"ServiceRows2", "findHere", "(I)LServiceRows2$Identifier;"⟩, 16) := ⟨⟨by decide +kernel, by decide +kernel⟩, List.mem_of_getElem? (i := 15) (by decide +kernel), List.mem_of_getElem? (i := 356) (by decide +kernel), List.mem_of_getElem? (i := 357) (by decide +kernel)⟩
theorem lw_p14 : lw_okq (⟨"ServiceRows2", "replyOctetsOf", "(LServiceRows2$Identifier;)V"⟩, 16) := ⟨⟨by decide +kernel, by decide +kernel⟩, List.mem_of_getElem? (i := 15) (by decide +kernel), List.mem_of_getElem? (i := 360) (by decide +kernel), List.mem_of_getElem? (i := 361) (by decide +kernel)⟩
theorem lw_p15 : lw_okq (⟨"ServiceRows2$Identifier", "ordinaryOctetAt", "(I)I"⟩, 11) := ⟨⟨by decide +kernel, by decide +kernel⟩, List.mem_of_getElem? (i := 151) (by decide +kernel), List.mem_of_getElem? (i := 373) (by decide +kernel), List.mem_of_getElem? (i := 374) (by decide +kernel)⟩
def lw_privs_1 : List (MethodName × Nat) := [(⟨"ServiceRows2", "findIdentifier", "(I)LServiceRows2$Identifier;"⟩, 16), (⟨"ServiceRows2", "hasRoomForIdentifier", "()Z"⟩, 16), (⟨"ServiceRows2", "addIdentifier", "(LServiceRows2$Identifier;)V"⟩, 16), (⟨"ServiceRows2", "findRoutine", "(I)LServiceRows2$Routine;"⟩, 16), (⟨"ServiceRows2", "conclude", "(LServiceRows2$Question;)V"⟩, 16), (⟨"ServiceRows2", "serve", "(LServiceRows2$Question;)I"⟩, 16), (⟨"ServiceRows2", "changeSession", "(LServiceRows2$Question;)I"⟩, 16), (⟨"ServiceRows2", "endSession", "(I)V"⟩, 16), (⟨"ServiceRows2", "beginReply", "(LServiceRows2$Question;)V"⟩, 16), (⟨"ServiceRows2", "reset", "(LServiceRows2$Question;)I"⟩, 16), (⟨"ServiceRows2", "forgetRoutines", "()V"⟩, 16), (⟨"ServiceRows2", "clearOwnValues", "()V"⟩, 16), (⟨"ServiceRows2", "read", "(LServiceRows2$Question;)I"⟩, 16), (⟨"ServiceRows2", "findHere", "(I)LServiceRows2$Identifier;"⟩, 16), (⟨"ServiceRows2", "replyOctetsOf", "(LServiceRows2$Identifier;)V"⟩, 16), (⟨"ServiceRows2$Identifier", "ordinaryOctetAt", "(I)I"⟩, 11)]
theorem lw_r1 : ∀ q ∈ lw_privs_1, lw_okq q := List.forall_mem_cons.mpr ⟨lw_p0, List.forall_mem_cons.mpr ⟨lw_p1, List.forall_mem_cons.mpr ⟨lw_p2, List.forall_mem_cons.mpr ⟨lw_p3, List.forall_mem_cons.mpr ⟨lw_p4, List.forall_mem_cons.mpr ⟨lw_p5, List.forall_mem_cons.mpr ⟨lw_p6, List.forall_mem_cons.mpr ⟨lw_p7, List.forall_mem_cons.mpr ⟨lw_p8, List.forall_mem_cons.mpr ⟨lw_p9, List.forall_mem_cons.mpr ⟨lw_p10, List.forall_mem_cons.mpr ⟨lw_p11, List.forall_mem_cons.mpr ⟨lw_p12, List.forall_mem_cons.mpr ⟨lw_p13, List.forall_mem_cons.mpr ⟨lw_p14, List.forall_mem_cons.mpr ⟨lw_p15, fun _ h => absurd h List.not_mem_nil⟩⟩⟩⟩⟩⟩⟩⟩⟩⟩⟩⟩⟩⟩⟩⟩
theorem lw_p16 : lw_okq (⟨"ServiceRows2", "write", "(LServiceRows2$Question;)I"⟩, 16) := ⟨⟨by decide +kernel, by decide +kernel⟩, List.mem_of_getElem? (i := 15) (by decide +kernel), List.mem_of_getElem? (i := 377) (by decide +kernel), List.mem_of_getElem? (i := 378) (by decide +kernel)⟩
theorem lw_p17 : lw_okq (⟨"ServiceRows2", "takeControl", "(LServiceRows2$Question;)I"⟩, 16) := ⟨⟨by decide +kernel, by decide +kernel⟩, List.mem_of_getElem? (i := 15) (by decide +kernel), List.mem_of_getElem? (i := 385) (by decide +kernel), List.mem_of_getElem? (i := 386) (by decide +kernel)⟩
theorem lw_p18 : lw_okq (⟨"ServiceRows2", "handleRoutine", "(LServiceRows2$Question;)I"⟩, 16) := ⟨⟨by decide +kernel, by decide +kernel⟩, List.mem_of_getElem? (i := 15) (by decide +kernel), List.mem_of_getElem? (i := 402) (by decide +kernel), List.mem_of_getElem? (i := 403) (by decide +kernel)⟩
theorem lw_p19 : lw_okq (⟨"ServiceRows2", "applyToRoutine", "(LServiceRows2$Routine;I)I"⟩, 16) := ⟨⟨by decide +kernel, by decide +kernel⟩, List.mem_of_getElem? (i := 15) (by decide +kernel), List.mem_of_getElem? (i := 406) (by decide +kernel), List.mem_of_getElem? (i := 407) (by decide +kernel)⟩
theorem lw_p20 : lw_okq (⟨"ServiceRows2", "startRoutine", "(LServiceRows2$Routine;)I"⟩, 16) := ⟨⟨by decide +kernel, by decide +kernel⟩, List.mem_of_getElem? (i := 15) (by decide +kernel), List.mem_of_getElem? (i := 410) (by decide +kernel), List.mem_of_getElem? (i := 411) (by decide +kernel)⟩
theorem lw_p21 : lw_okq (⟨"ServiceRows2", "askResult", "(LServiceRows2$Routine;)I"⟩, 16) := ⟨⟨by decide +kernel, by decide +kernel⟩, List.mem_of_getElem? (i := 15) (by decide +kernel), List.mem_of_getElem? (i := 418) (by decide +kernel), List.mem_of_getElem? (i := 419) (by decide +kernel)⟩
theorem lw_p22 : lw_okq (⟨"ServiceRows2", "openTransfer", "(LServiceRows2$Question;)I"⟩, 16) := ⟨⟨by decide +kernel, by decide +kernel⟩, List.mem_of_getElem? (i := 15) (by decide +kernel), List.mem_of_getElem? (i := 422) (by decide +kernel), List.mem_of_getElem? (i := 423) (by decide +kernel)⟩
theorem lw_p23 : lw_okq (⟨"ServiceRows2", "takeBlock", "(LServiceRows2$Question;)I"⟩, 16) := ⟨⟨by decide +kernel, by decide +kernel⟩, List.mem_of_getElem? (i := 15) (by decide +kernel), List.mem_of_getElem? (i := 430) (by decide +kernel), List.mem_of_getElem? (i := 431) (by decide +kernel)⟩
theorem lw_p24 : lw_okq (⟨"ServiceRows2", "closeTransfer", "(LServiceRows2$Question;)I"⟩, 16) := ⟨⟨by decide +kernel, by decide +kernel⟩, List.mem_of_getElem? (i := 15) (by decide +kernel), List.mem_of_getElem? (i := 448) (by decide +kernel), List.mem_of_getElem? (i := 449) (by decide +kernel)⟩
theorem lw_p25 : lw_okq (⟨"ServiceRows2", "stayPresent", "(LServiceRows2$Question;)I"⟩, 16) := ⟨⟨by decide +kernel, by decide +kernel⟩, List.mem_of_getElem? (i := 15) (by decide +kernel), List.mem_of_getElem? (i := 452) (by decide +kernel), List.mem_of_getElem? (i := 453) (by decide +kernel)⟩
theorem lw_p26 : lw_okq (⟨"java/lang/Throwable", "fillInStackTrace", "(I)Ljava/lang/Throwable;"⟩, 6) := ⟨⟨by decide +kernel, by decide +kernel⟩, List.mem_of_getElem? (i := 540) (by decide +kernel), List.mem_of_getElem? (i := 538) (by decide +kernel), List.mem_of_getElem? (i := 539) (by decide +kernel)⟩
theorem lw_p27 : lw_okq (⟨"ServiceRows2Model", "find", "(I)I"⟩, 43) := ⟨⟨by decide +kernel, by decide +kernel⟩, List.mem_of_getElem? (i := 577) (by decide +kernel), List.mem_of_getElem? (i := 729) (by decide +kernel), List.mem_of_getElem? (i := 730) (by decide +kernel)⟩
theorem lw_p28 : lw_okq (⟨"ServiceRows2Model", "add", "(IIII)I"⟩, 43) := ⟨⟨by decide +kernel, by decide +kernel⟩, List.mem_of_getElem? (i := 577) (by decide +kernel), List.mem_of_getElem? (i := 733) (by decide +kernel), List.mem_of_getElem? (i := 734) (by decide +kernel)⟩
theorem lw_p29 : lw_okq (⟨"ServiceRows2Model", "valueOf", "(I)J"⟩, 43) := ⟨⟨by decide +kernel, by decide +kernel⟩, List.mem_of_getElem? (i := 577) (by decide +kernel), List.mem_of_getElem? (i := 767) (by decide +kernel), List.mem_of_getElem? (i := 768) (by decide +kernel)⟩
theorem lw_p30 : lw_okq (⟨"ServiceRows2Model", "octet", "(II)I"⟩, 43) := ⟨⟨by decide +kernel, by decide +kernel⟩, List.mem_of_getElem? (i := 577) (by decide +kernel), List.mem_of_getElem? (i := 771) (by decide +kernel), List.mem_of_getElem? (i := 772) (by decide +kernel)⟩
theorem lw_p31 : lw_okq (⟨"ServiceRows2Model", "looked", "()I"⟩, 43) := ⟨⟨by decide +kernel, by decide +kernel⟩, List.mem_of_getElem? (i := 577) (by decide +kernel), List.mem_of_getElem? (i := 779) (by decide +kernel), List.mem_of_getElem? (i := 780) (by decide +kernel)⟩
def lw_privs_2 : List (MethodName × Nat) := [(⟨"ServiceRows2", "write", "(LServiceRows2$Question;)I"⟩, 16), (⟨"ServiceRows2", "takeControl", "(LServiceRows2$Question;)I"⟩, 16), (⟨"ServiceRows2", "handleRoutine", "(LServiceRows2$Question;)I"⟩, 16), (⟨"ServiceRows2", "applyToRoutine", "(LServiceRows2$Routine;I)I"⟩, 16), (⟨"ServiceRows2", "startRoutine", "(LServiceRows2$Routine;)I"⟩, 16), (⟨"ServiceRows2", "askResult", "(LServiceRows2$Routine;)I"⟩, 16), (⟨"ServiceRows2", "openTransfer", "(LServiceRows2$Question;)I"⟩, 16), (⟨"ServiceRows2", "takeBlock", "(LServiceRows2$Question;)I"⟩, 16), (⟨"ServiceRows2", "closeTransfer", "(LServiceRows2$Question;)I"⟩, 16), (⟨"ServiceRows2", "stayPresent", "(LServiceRows2$Question;)I"⟩, 16), (⟨"java/lang/Throwable", "fillInStackTrace", "(I)Ljava/lang/Throwable;"⟩, 6), (⟨"ServiceRows2Model", "find", "(I)I"⟩, 43), (⟨"ServiceRows2Model", "add", "(IIII)I"⟩, 43), (⟨"ServiceRows2Model", "valueOf", "(I)J"⟩, 43), (⟨"ServiceRows2Model", "octet", "(II)I"⟩, 43), (⟨"ServiceRows2Model", "looked", "()I"⟩, 43)]
theorem lw_r2 : ∀ q ∈ lw_privs_2, lw_okq q := List.forall_mem_cons.mpr ⟨lw_p16, List.forall_mem_cons.mpr ⟨lw_p17, List.forall_mem_cons.mpr ⟨lw_p18, List.forall_mem_cons.mpr ⟨lw_p19, List.forall_mem_cons.mpr ⟨lw_p20, List.forall_mem_cons.mpr ⟨lw_p21, List.forall_mem_cons.mpr ⟨lw_p22, List.forall_mem_cons.mpr ⟨lw_p23, List.forall_mem_cons.mpr ⟨lw_p24, List.forall_mem_cons.mpr ⟨lw_p25, List.forall_mem_cons.mpr ⟨lw_p26, List.forall_mem_cons.mpr ⟨lw_p27, List.forall_mem_cons.mpr ⟨lw_p28, List.forall_mem_cons.mpr ⟨lw_p29, List.forall_mem_cons.mpr ⟨lw_p30, List.forall_mem_cons.mpr ⟨lw_p31, fun _ h => absurd h List.not_mem_nil⟩⟩⟩⟩⟩⟩⟩⟩⟩⟩⟩⟩⟩⟩⟩⟩
theorem lw_p32 : lw_okq (⟨"ServiceRows2Model", "served", "()I"⟩, 43) := ⟨⟨by decide +kernel, by decide +kernel⟩, List.mem_of_getElem? (i := 577) (by decide +kernel), List.mem_of_getElem? (i := 783) (by decide +kernel), List.mem_of_getElem? (i := 784) (by decide +kernel)⟩
theorem lw_p33 : lw_okq (⟨"ServiceRows2Model", "ends", "(I)V"⟩, 43) := ⟨⟨by decide +kernel, by decide +kernel⟩, List.mem_of_getElem? (i := 577) (by decide +kernel), List.mem_of_getElem? (i := 787) (by decide +kernel), List.mem_of_getElem? (i := 788) (by decide +kernel)⟩
theorem lw_p34 : lw_okq (⟨"ServiceRows2Model", "say", "(I)V"⟩, 43) := ⟨⟨by decide +kernel, by decide +kernel⟩, List.mem_of_getElem? (i := 577) (by decide +kernel), List.mem_of_getElem? (i := 791) (by decide +kernel), List.mem_of_getElem? (i := 792) (by decide +kernel)⟩
theorem lw_p35 : lw_okq (⟨"ServiceRows2Model", "read", "(I)I"⟩, 43) := ⟨⟨by decide +kernel, by decide +kernel⟩, List.mem_of_getElem? (i := 577) (by decide +kernel), List.mem_of_getElem? (i := 795) (by decide +kernel), List.mem_of_getElem? (i := 796) (by decide +kernel)⟩
theorem lw_p36 : lw_okq (⟨"ServiceRows2Model", "told", "(I)I"⟩, 43) := ⟨⟨by decide +kernel, by decide +kernel⟩, List.mem_of_getElem? (i := 577) (by decide +kernel), List.mem_of_getElem? (i := 799) (by decide +kernel), List.mem_of_getElem? (i := 800) (by decide +kernel)⟩
theorem lw_p37 : lw_okq (⟨"ServiceRows2Model", "isHere", "(I)Z"⟩, 43) := ⟨⟨by decide +kernel, by decide +kernel⟩, List.mem_of_getElem? (i := 577) (by decide +kernel), List.mem_of_getElem? (i := 803) (by decide +kernel), List.mem_of_getElem? (i := 804) (by decide +kernel)⟩
theorem lw_p38 : lw_okq (⟨"ServiceRows2Model", "write", "(I)I"⟩, 43) := ⟨⟨by decide +kernel, by decide +kernel⟩, List.mem_of_getElem? (i := 577) (by decide +kernel), List.mem_of_getElem? (i := 807) (by decide +kernel), List.mem_of_getElem? (i := 808) (by decide +kernel)⟩
theorem lw_p39 : lw_okq (⟨"ServiceRows2Model", "number", "(II)J"⟩, 43) := ⟨⟨by decide +kernel, by decide +kernel⟩, List.mem_of_getElem? (i := 577) (by decide +kernel), List.mem_of_getElem? (i := 811) (by decide +kernel), List.mem_of_getElem? (i := 812) (by decide +kernel)⟩
theorem lw_p40 : lw_okq (⟨"ServiceRows2Model", "threeSaid", "(III)V"⟩, 43) := ⟨⟨by decide +kernel, by decide +kernel⟩, List.mem_of_getElem? (i := 577) (by decide +kernel), List.mem_of_getElem? (i := 815) (by decide +kernel), List.mem_of_getElem? (i := 816) (by decide +kernel)⟩
theorem lw_p41 : lw_okq (⟨"ServiceRows2Model", "controls", "(I)I"⟩, 43) := ⟨⟨by decide +kernel, by decide +kernel⟩, List.mem_of_getElem? (i := 577) (by decide +kernel), List.mem_of_getElem? (i := 819) (by decide +kernel), List.mem_of_getElem? (i := 820) (by decide +kernel)⟩
theorem lw_p42 : lw_okq (⟨"ServiceRows2Model", "runs", "(II)I"⟩, 43) := ⟨⟨by decide +kernel, by decide +kernel⟩, List.mem_of_getElem? (i := 577) (by decide +kernel), List.mem_of_getElem? (i := 823) (by decide +kernel), List.mem_of_getElem? (i := 824) (by decide +kernel)⟩
theorem lw_p43 : lw_okq (⟨"ServiceRows2Model", "takes", "(I)I"⟩, 43) := ⟨⟨by decide +kernel, by decide +kernel⟩, List.mem_of_getElem? (i := 577) (by decide +kernel), List.mem_of_getElem? (i := 828) (by decide +kernel), List.mem_of_getElem? (i := 829) (by decide +kernel)⟩
def lw_privs_3 : List (MethodName × Nat) := [(⟨"ServiceRows2Model", "served", "()I"⟩, 43), (⟨"ServiceRows2Model", "ends", "(I)V"⟩, 43), (⟨"ServiceRows2Model", "say", "(I)V"⟩, 43), (⟨"ServiceRows2Model", "read", "(I)I"⟩, 43), (⟨"ServiceRows2Model", "told", "(I)I"⟩, 43), (⟨"ServiceRows2Model", "isHere", "(I)Z"⟩, 43), (⟨"ServiceRows2Model", "write", "(I)I"⟩, 43), (⟨"ServiceRows2Model", "number", "(II)J"⟩, 43), (⟨"ServiceRows2Model", "threeSaid", "(III)V"⟩, 43), (⟨"ServiceRows2Model", "controls", "(I)I"⟩, 43), (⟨"ServiceRows2Model", "runs", "(II)I"⟩, 43), (⟨"ServiceRows2Model", "takes", "(I)I"⟩, 43)]
theorem lw_r3 : ∀ q ∈ lw_privs_3, lw_okq q := List.forall_mem_cons.mpr ⟨lw_p32, List.forall_mem_cons.mpr ⟨lw_p33, List.forall_mem_cons.mpr ⟨lw_p34, List.forall_mem_cons.mpr ⟨lw_p35, List.forall_mem_cons.mpr ⟨lw_p36, List.forall_mem_cons.mpr ⟨lw_p37, List.forall_mem_cons.mpr ⟨lw_p38, List.forall_mem_cons.mpr ⟨lw_p39, List.forall_mem_cons.mpr ⟨lw_p40, List.forall_mem_cons.mpr ⟨lw_p41, List.forall_mem_cons.mpr ⟨lw_p42, List.forall_mem_cons.mpr ⟨lw_p43, fun _ h => absurd h List.not_mem_nil⟩⟩⟩⟩⟩⟩⟩⟩⟩⟩⟩⟩
def lw_privs : List (MethodName × Nat) := lw_privs_1 ++ (lw_privs_2 ++ (lw_privs_3))
def lw_tbl : List Cond := k2_sels lw_privs ++ tables_1
theorem lw_privs_ok : ∀ q ∈ lw_privs, lw_okq q := by
  show ∀ q ∈ lw_privs_1 ++ (lw_privs_2 ++ (lw_privs_3)), lw_okq q
  exact List.forall_mem_append.mpr ⟨lw_r1, List.forall_mem_append.mpr ⟨lw_r2, lw_r3⟩⟩
end
section
/-! ===== BEGIN words of one list among another's, by their places ===== -/
theorem goodIn_r {big : List Cond} (ws : List Cond) (ps : List Nat) (hp : ws = ps.filterMap (fun i => big[i]?)) (h : ws.all goodWord = true) : GoodIn big ws := by
  intro w hw
  have h1 := List.all_eq_true.mp h w hw
  rw [hp] at hw
  obtain ⟨i, -, hi⟩ := List.mem_filterMap.mp hw
  have hm : w ∈ big := by first | exact List.mem_of_getElem? hi | exact List.getElem?_mem hi
  exact ⟨hm, good_of_word h1⟩
theorem goodIn_app {big a b : List Cond} (ha : GoodIn big a) (hb : GoodIn big b) : GoodIn big (a ++ b) := fun w h => (List.mem_append.mp h).elim (ha w) (hb w)
theorem goodIn_ca {big a b : List Cond} {c : Cond} (ha : GoodIn big (c :: a)) (hb : GoodIn big b) : GoodIn big (c :: (a ++ b)) := fun w h => (List.mem_cons.mp h).elim (fun e => ha w (List.mem_cons.mpr (Or.inl e))) (fun h => (List.mem_append.mp h).elim (fun h => ha w (List.mem_cons.mpr (Or.inr h))) (hb w))
theorem goodIn_sub {big ws : List Cond} (hm : ∀ w ∈ ws, w ∈ big) (h : ws.all goodWord = true) : GoodIn big ws := fun w hw => ⟨hm w hw, good_of_word (List.all_eq_true.mp h w hw)⟩
/-! ===== END ===== -/

/-! ===== BEGIN printed: names, fields, word lists, decode rows ===== -/
def RX0 : String := "ServiceRows2$Answer"
def TX0 : u_T := fun k => match k with
  | 0 => ("ServiceRows2$Answer", "octets", "[B", true)
  | _ => ("ServiceRows2$Answer", "length", "I", false)
def tyX0 : Nat → FieldType := fun k => match k with
  | 0 => .array .byte
  | _ => .int
abbrev wsX00 : List Cond := u_ws RX0 TX0 2
theorem nmX0 : ∀ a, a < 2 → ∀ b, b < 2 → a ≠ b → (TX0 a).2.1 ≠ (TX0 b).2.1 := by decide +kernel
theorem tyX0_ok : ∀ k, k < 2 → parseFieldDescriptor (TX0 k).2.2.1 = some (tyX0 k) := by decide +kernel
abbrev cX0_init : ByteArray := prog_2_method_1_code
def yX0_init : MethodName := ⟨RX0, "<init>", "()V"⟩
abbrev cX0_clear : ByteArray := prog_2_method_2_code
def yX0_clear : MethodName := ⟨RX0, "clear", "()V"⟩
abbrev cX0_put : ByteArray := prog_2_method_3_code
def yX0_put : MethodName := ⟨RX0, "put", "(I)V"⟩
abbrev cX0_putWord : ByteArray := prog_2_method_4_code
def yX0_putWord : MethodName := ⟨RX0, "putWord", "(I)V"⟩
abbrev cX0_has : ByteArray := prog_2_method_5_code
def yX0_has : MethodName := ⟨RX0, "has", "(I)Z"⟩
abbrev cX0_octetAt : ByteArray := prog_2_method_6_code
def yX0_octetAt : MethodName := ⟨RX0, "octetAt", "(I)B"⟩
def RX1 : String := "ServiceRows2$Identifier"
def TX1 : u_T := fun k => match k with
  | 0 => ("ServiceRows2$Identifier", "id", "I", true)
  | 1 => ("ServiceRows2$Identifier", "session", "I", true)
  | 2 => ("ServiceRows2$Identifier", "level", "I", true)
  | 3 => ("ServiceRows2$Identifier", "isTogether", "Z", true)
  | 4 => ("ServiceRows2$Identifier", "length", "I", false)
  | 5 => ("ServiceRows2$Identifier", "mayBeWritten", "Z", false)
  | 6 => ("ServiceRows2$Identifier", "own", "J", false)
  | 7 => ("ServiceRows2$Identifier", "isHeld", "Z", false)
  | 8 => ("ServiceRows2$Identifier", "held", "J", false)
  | 9 => ("ServiceRows2$Identifier", "sources", "[LServiceRows2$Identifier;", true)
  | _ => ("ServiceRows2$Identifier", "places", "[I", true)
def tyX1 : Nat → FieldType := fun k => match k with
  | 0 => .int
  | 1 => .int
  | 2 => .int
  | 3 => .boolean
  | 4 => .int
  | 5 => .boolean
  | 6 => .long
  | 7 => .boolean
  | 8 => .long
  | 9 => .array (.object "ServiceRows2$Identifier")
  | _ => .array .int
abbrev wsX10 : List Cond := u_ws RX1 TX1 11
theorem nmX1 : ∀ a, a < 11 → ∀ b, b < 11 → a ≠ b → (TX1 a).2.1 ≠ (TX1 b).2.1 := by decide +kernel
theorem tyX1_ok : ∀ k, k < 11 → parseFieldDescriptor (TX1 k).2.2.1 = some (tyX1 k) := by decide +kernel
abbrev cX1_init : ByteArray := prog_3_method_1_code
def yX1_init : MethodName := ⟨RX1, "<init>", "(IIIIZ)V"⟩
abbrev cX1_append : ByteArray := prog_3_method_2_code
def yX1_append : MethodName := ⟨RX1, "append", "(LServiceRows2$Identifier;I)V"⟩
abbrev cX1_hold : ByteArray := prog_3_method_3_code
def yX1_hold : MethodName := ⟨RX1, "hold", "(J)V"⟩
abbrev cX1_release : ByteArray := prog_3_method_4_code
def yX1_release : MethodName := ⟨RX1, "release", "()V"⟩
abbrev cX1_octetAt : ByteArray := prog_3_method_5_code
def yX1_octetAt : MethodName := ⟨RX1, "octetAt", "(I)I"⟩
abbrev cX1_ordinaryOctetAt : ByteArray := prog_3_method_6_code
def yX1_ordinaryOctetAt : MethodName := ⟨RX1, "ordinaryOctetAt", "(I)I"⟩
abbrev cX1_number : ByteArray := prog_3_method_7_code
def yX1_number : MethodName := ⟨RX1, "number", "()J"⟩
def RX2 : String := "ServiceRows2$Question"
def TX2 : u_T := fun k => match k with
  | 0 => ("ServiceRows2$Question", "octets", "[B", true)
  | 1 => ("ServiceRows2$Question", "isBegun", "Z", false)
  | 2 => ("ServiceRows2$Question", "due", "I", false)
  | 3 => ("ServiceRows2$Question", "count", "I", false)
  | _ => ("ServiceRows2$Question", "isToAll", "Z", false)
def tyX2 : Nat → FieldType := fun k => match k with
  | 0 => .array .byte
  | 1 => .boolean
  | 2 => .int
  | 3 => .int
  | _ => .boolean
abbrev wsX20 : List Cond := u_ws RX2 TX2 5
theorem nmX2 : ∀ a, a < 5 → ∀ b, b < 5 → a ≠ b → (TX2 a).2.1 ≠ (TX2 b).2.1 := by decide +kernel
theorem tyX2_ok : ∀ k, k < 5 → parseFieldDescriptor (TX2 k).2.2.1 = some (tyX2 k) := by decide +kernel
abbrev cX2_init : ByteArray := prog_4_method_1_code
def yX2_init : MethodName := ⟨RX2, "<init>", "()V"⟩
abbrev cX2_take : ByteArray := prog_4_method_2_code
def yX2_take : MethodName := ⟨RX2, "take", "(B)V"⟩
abbrev cX2_isWhole : ByteArray := prog_4_method_3_code
def yX2_isWhole : MethodName := ⟨RX2, "isWhole", "()Z"⟩
abbrev cX2_end : ByteArray := prog_4_method_4_code
def yX2_end : MethodName := ⟨RX2, "end", "()V"⟩
abbrev cX2_isEmpty : ByteArray := prog_4_method_5_code
def yX2_isEmpty : MethodName := ⟨RX2, "isEmpty", "()Z"⟩
abbrev cX2_service : ByteArray := prog_4_method_6_code
def yX2_service : MethodName := ⟨RX2, "service", "()I"⟩
abbrev cX2_size : ByteArray := prog_4_method_7_code
def yX2_size : MethodName := ⟨RX2, "size", "()I"⟩
abbrev cX2_octetAt : ByteArray := prog_4_method_8_code
def yX2_octetAt : MethodName := ⟨RX2, "octetAt", "(I)I"⟩
abbrev cX2_word : ByteArray := prog_4_method_9_code
def yX2_word : MethodName := ⟨RX2, "word", "(I)I"⟩
abbrev cX2_number : ByteArray := prog_4_method_10_code
def yX2_number : MethodName := ⟨RX2, "number", "(II)J"⟩
abbrev cX2_function : ByteArray := prog_4_method_11_code
def yX2_function : MethodName := ⟨RX2, "function", "()I"⟩
abbrev cX2_wantsNoAnswer : ByteArray := prog_4_method_12_code
def yX2_wantsNoAnswer : MethodName := ⟨RX2, "wantsNoAnswer", "()Z"⟩
def RX3 : String := "ServiceRows2$Routine"
def TX3 : u_T := fun k => match k with
  | 0 => ("ServiceRows2$Routine", "id", "I", true)
  | 1 => ("ServiceRows2$Routine", "steps", "I", true)
  | 2 => ("ServiceRows2$Routine", "isStarted", "Z", false)
  | 3 => ("ServiceRows2$Routine", "left", "I", false)
  | _ => ("ServiceRows2$Routine", "waitsTold", "I", false)
def tyX3 : Nat → FieldType := fun k => match k with
  | 0 => .int
  | 1 => .int
  | 2 => .boolean
  | 3 => .int
  | _ => .int
abbrev wsX30 : List Cond := u_ws RX3 TX3 5
theorem nmX3 : ∀ a, a < 5 → ∀ b, b < 5 → a ≠ b → (TX3 a).2.1 ≠ (TX3 b).2.1 := by decide +kernel
theorem tyX3_ok : ∀ k, k < 5 → parseFieldDescriptor (TX3 k).2.2.1 = some (tyX3 k) := by decide +kernel
abbrev cX3_init : ByteArray := prog_5_method_1_code
def yX3_init : MethodName := ⟨RX3, "<init>", "(II)V"⟩
abbrev cX3_start : ByteArray := prog_5_method_2_code
def yX3_start : MethodName := ⟨RX3, "start", "()V"⟩
abbrev cX3_step : ByteArray := prog_5_method_3_code
def yX3_step : MethodName := ⟨RX3, "step", "()V"⟩
abbrev cX3_forget : ByteArray := prog_5_method_4_code
def yX3_forget : MethodName := ⟨RX3, "forget", "()V"⟩
def RX4 : String := "ServiceRows2$Transfer"
def TX4 : u_T := fun k => match k with
  | 0 => ("ServiceRows2$Transfer", "isOpen", "Z", false)
  | 1 => ("ServiceRows2$Transfer", "missing", "I", false)
  | 2 => ("ServiceRows2$Transfer", "sum", "I", false)
  | _ => ("ServiceRows2$Transfer", "blocks", "I", false)
def tyX4 : Nat → FieldType := fun k => match k with
  | 0 => .boolean
  | 1 => .int
  | 2 => .int
  | _ => .int
abbrev wsX40 : List Cond := u_ws RX4 TX4 4
theorem nmX4 : ∀ a, a < 4 → ∀ b, b < 4 → a ≠ b → (TX4 a).2.1 ≠ (TX4 b).2.1 := by decide +kernel
theorem tyX4_ok : ∀ k, k < 4 → parseFieldDescriptor (TX4 k).2.2.1 = some (tyX4 k) := by decide +kernel
abbrev cX4_init : ByteArray := prog_6_method_1_code
def yX4_init : MethodName := ⟨RX4, "<init>", "()V"⟩
abbrev cX4_open : ByteArray := prog_6_method_2_code
def yX4_open : MethodName := ⟨RX4, "open", "(I)V"⟩
abbrev cX4_close : ByteArray := prog_6_method_3_code
def yX4_close : MethodName := ⟨RX4, "close", "()V"⟩
abbrev cX4_isBlockBefore : ByteArray := prog_6_method_4_code
def yX4_isBlockBefore : MethodName := ⟨RX4, "isBlockBefore", "(I)Z"⟩
abbrev cX4_nextBlock : ByteArray := prog_6_method_5_code
def yX4_nextBlock : MethodName := ⟨RX4, "nextBlock", "()I"⟩
abbrev cX4_add : ByteArray := prog_6_method_6_code
def yX4_add : MethodName := ⟨RX4, "add", "(LServiceRows2$Question;I)V"⟩
def RX5 : String := "ServiceRows2"
def TX5 : u_T := fun k => match k with
  | 0 => ("ServiceRows2", "identifiers", "[LServiceRows2$Identifier;", true)
  | 1 => ("ServiceRows2", "identifierCount", "I", false)
  | 2 => ("ServiceRows2", "routines", "[LServiceRows2$Routine;", true)
  | 3 => ("ServiceRows2", "routineCount", "I", false)
  | 4 => ("ServiceRows2", "standing", "Z", false)
  | 5 => ("ServiceRows2", "quiet", "Z", false)
  | 6 => ("ServiceRows2", "session", "I", false)
  | 7 => ("ServiceRows2", "level", "I", false)
  | 8 => ("ServiceRows2", "bound", "I", false)
  | 9 => ("ServiceRows2", "time", "J", false)
  | 10 => ("ServiceRows2", "questionTime", "J", false)
  | 11 => ("ServiceRows2", "lastCode", "I", false)
  | 12 => ("ServiceRows2", "asked", "LServiceRows2$Question;", true)
  | 13 => ("ServiceRows2", "block", "LServiceRows2$Question;", true)
  | 14 => ("ServiceRows2", "reply", "LServiceRows2$Answer;", true)
  | _ => ("ServiceRows2", "moved", "LServiceRows2$Transfer;", true)
def tyX5 : Nat → FieldType := fun k => match k with
  | 0 => .array (.object "ServiceRows2$Identifier")
  | 1 => .int
  | 2 => .array (.object "ServiceRows2$Routine")
  | 3 => .int
  | 4 => .boolean
  | 5 => .boolean
  | 6 => .int
  | 7 => .int
  | 8 => .int
  | 9 => .long
  | 10 => .long
  | 11 => .int
  | 12 => .object "ServiceRows2$Question"
  | 13 => .object "ServiceRows2$Question"
  | 14 => .object "ServiceRows2$Answer"
  | _ => .object "ServiceRows2$Transfer"
abbrev wsX50 : List Cond := u_ws RX5 TX5 16
theorem nmX5 : ∀ a, a < 16 → ∀ b, b < 16 → a ≠ b → (TX5 a).2.1 ≠ (TX5 b).2.1 := by decide +kernel
theorem tyX5_ok : ∀ k, k < 16 → parseFieldDescriptor (TX5 k).2.2.1 = some (tyX5 k) := by decide +kernel
abbrev cX5_init : ByteArray := prog_1_method_1_code
def yX5_init : MethodName := ⟨RX5, "<init>", "()V"⟩
abbrev cX5_identifier : ByteArray := prog_1_method_2_code
def yX5_identifier : MethodName := ⟨RX5, "identifier", "(IIII)I"⟩
abbrev cX5_dynamic : ByteArray := prog_1_method_3_code
def yX5_dynamic : MethodName := ⟨RX5, "dynamic", "(III)I"⟩
abbrev cX5_routine : ByteArray := prog_1_method_4_code
def yX5_routine : MethodName := ⟨RX5, "routine", "(II)I"⟩
abbrev cX5_condition : ByteArray := prog_1_method_5_code
def yX5_condition : MethodName := ⟨RX5, "condition", "(IZ)I"⟩
abbrev cX5_rights : ByteArray := prog_1_method_6_code
def yX5_rights : MethodName := ⟨RX5, "rights", "(I)I"⟩
abbrev cX5_control : ByteArray := prog_1_method_7_code
def yX5_control : MethodName := ⟨RX5, "control", "(IIJ)I"⟩
abbrev cX5_pending : ByteArray := prog_1_method_8_code
def yX5_pending : MethodName := ⟨RX5, "pending", "(I)I"⟩
abbrev cX5_ask : ByteArray := prog_1_method_9_code
def yX5_ask : MethodName := ⟨RX5, "ask", "(B)I"⟩
abbrev cX5_answer : ByteArray := prog_1_method_10_code
def yX5_answer : MethodName := ⟨RX5, "answer", "(I)B"⟩
abbrev cX5_code : ByteArray := prog_1_method_11_code
def yX5_code : MethodName := ⟨RX5, "code", "()I"⟩
abbrev cX5_transfer : ByteArray := prog_1_method_12_code
def yX5_transfer : MethodName := ⟨RX5, "transfer", "(IB)I"⟩
abbrev cX5_tick : ByteArray := prog_1_method_13_code
def yX5_tick : MethodName := ⟨RX5, "tick", "(J)I"⟩
abbrev cX5_value : ByteArray := prog_1_method_14_code
def yX5_value : MethodName := ⟨RX5, "value", "(I)J"⟩
abbrev cX5_isWithin : ByteArray := prog_1_method_15_code
def yX5_isWithin : MethodName := ⟨RX5, "isWithin", "(III)Z"⟩
abbrev cX5_findIdentifier : ByteArray := prog_1_method_16_code
def yX5_findIdentifier : MethodName := ⟨RX5, "findIdentifier", "(I)LServiceRows2$Identifier;"⟩
abbrev cX5_hasRoomForIdentifier : ByteArray := prog_1_method_17_code
def yX5_hasRoomForIdentifier : MethodName := ⟨RX5, "hasRoomForIdentifier", "()Z"⟩
abbrev cX5_addIdentifier : ByteArray := prog_1_method_18_code
def yX5_addIdentifier : MethodName := ⟨RX5, "addIdentifier", "(LServiceRows2$Identifier;)V"⟩
abbrev cX5_findRoutine : ByteArray := prog_1_method_19_code
def yX5_findRoutine : MethodName := ⟨RX5, "findRoutine", "(I)LServiceRows2$Routine;"⟩
abbrev cX5_findHere : ByteArray := prog_1_method_20_code
def yX5_findHere : MethodName := ⟨RX5, "findHere", "(I)LServiceRows2$Identifier;"⟩
abbrev cX5_endSession : ByteArray := prog_1_method_21_code
def yX5_endSession : MethodName := ⟨RX5, "endSession", "(I)V"⟩
abbrev cX5_conclude : ByteArray := prog_1_method_22_code
def yX5_conclude : MethodName := ⟨RX5, "conclude", "(LServiceRows2$Question;)V"⟩
abbrev cX5_isKeptFromAll : ByteArray := prog_1_method_23_code
def yX5_isKeptFromAll : MethodName := ⟨RX5, "isKeptFromAll", "(I)Z"⟩
abbrev cX5_serve : ByteArray := prog_1_method_24_code
def yX5_serve : MethodName := ⟨RX5, "serve", "(LServiceRows2$Question;)I"⟩
abbrev cX5_changeSession : ByteArray := prog_1_method_25_code
def yX5_changeSession : MethodName := ⟨RX5, "changeSession", "(LServiceRows2$Question;)I"⟩
abbrev cX5_stayPresent : ByteArray := prog_1_method_26_code
def yX5_stayPresent : MethodName := ⟨RX5, "stayPresent", "(LServiceRows2$Question;)I"⟩
abbrev cX5_reset : ByteArray := prog_1_method_27_code
def yX5_reset : MethodName := ⟨RX5, "reset", "(LServiceRows2$Question;)I"⟩
abbrev cX5_forgetRoutines : ByteArray := prog_1_method_28_code
def yX5_forgetRoutines : MethodName := ⟨RX5, "forgetRoutines", "()V"⟩
abbrev cX5_clearOwnValues : ByteArray := prog_1_method_29_code
def yX5_clearOwnValues : MethodName := ⟨RX5, "clearOwnValues", "()V"⟩
abbrev cX5_read : ByteArray := prog_1_method_30_code
def yX5_read : MethodName := ⟨RX5, "read", "(LServiceRows2$Question;)I"⟩
abbrev cX5_replyOctetsOf : ByteArray := prog_1_method_31_code
def yX5_replyOctetsOf : MethodName := ⟨RX5, "replyOctetsOf", "(LServiceRows2$Identifier;)V"⟩
abbrev cX5_write : ByteArray := prog_1_method_32_code
def yX5_write : MethodName := ⟨RX5, "write", "(LServiceRows2$Question;)I"⟩
abbrev cX5_takeControl : ByteArray := prog_1_method_33_code
def yX5_takeControl : MethodName := ⟨RX5, "takeControl", "(LServiceRows2$Question;)I"⟩
abbrev cX5_setControl : ByteArray := prog_1_method_34_code
def yX5_setControl : MethodName := ⟨RX5, "setControl", "(LServiceRows2$Identifier;ILServiceRows2$Question;)V"⟩
abbrev cX5_handleRoutine : ByteArray := prog_1_method_35_code
def yX5_handleRoutine : MethodName := ⟨RX5, "handleRoutine", "(LServiceRows2$Question;)I"⟩
abbrev cX5_applyToRoutine : ByteArray := prog_1_method_36_code
def yX5_applyToRoutine : MethodName := ⟨RX5, "applyToRoutine", "(LServiceRows2$Routine;I)I"⟩
abbrev cX5_startRoutine : ByteArray := prog_1_method_37_code
def yX5_startRoutine : MethodName := ⟨RX5, "startRoutine", "(LServiceRows2$Routine;)I"⟩
abbrev cX5_askResult : ByteArray := prog_1_method_38_code
def yX5_askResult : MethodName := ⟨RX5, "askResult", "(LServiceRows2$Routine;)I"⟩
abbrev cX5_openTransfer : ByteArray := prog_1_method_39_code
def yX5_openTransfer : MethodName := ⟨RX5, "openTransfer", "(LServiceRows2$Question;)I"⟩
abbrev cX5_takeBlock : ByteArray := prog_1_method_40_code
def yX5_takeBlock : MethodName := ⟨RX5, "takeBlock", "(LServiceRows2$Question;)I"⟩
abbrev cX5_closeTransfer : ByteArray := prog_1_method_41_code
def yX5_closeTransfer : MethodName := ⟨RX5, "closeTransfer", "(LServiceRows2$Question;)I"⟩
abbrev cX5_beginReply : ByteArray := prog_1_method_42_code
def yX5_beginReply : MethodName := ⟨RX5, "beginReply", "(LServiceRows2$Question;)V"⟩
def RX6 : String := "ServiceRows2Model"
def TX6 : u_T := fun k => match k with
  | 0 => ("ServiceRows2Model", "thrown", "I", false)
  | 1 => ("ServiceRows2Model", "present", "I", false)
  | 2 => ("ServiceRows2Model", "level", "I", false)
  | 3 => ("ServiceRows2Model", "now", "J", false)
  | 4 => ("ServiceRows2Model", "asked", "J", false)
  | 5 => ("ServiceRows2Model", "standing", "Z", false)
  | 6 => ("ServiceRows2Model", "quiet", "Z", false)
  | 7 => ("ServiceRows2Model", "bound", "I", false)
  | 8 => ("ServiceRows2Model", "ids", "I", false)
  | 9 => ("ServiceRows2Model", "id", "[I", true)
  | 10 => ("ServiceRows2Model", "length", "[I", true)
  | 11 => ("ServiceRows2Model", "session", "[I", true)
  | 12 => ("ServiceRows2Model", "needs", "[I", true)
  | 13 => ("ServiceRows2Model", "own", "[J", true)
  | 14 => ("ServiceRows2Model", "controlled", "[Z", true)
  | 15 => ("ServiceRows2Model", "control", "[J", true)
  | 16 => ("ServiceRows2Model", "kept", "[Z", true)
  | 17 => ("ServiceRows2Model", "joined", "[Z", true)
  | 18 => ("ServiceRows2Model", "partOf", "[I", true)
  | 19 => ("ServiceRows2Model", "partAt", "[I", true)
  | 20 => ("ServiceRows2Model", "routines", "I", false)
  | 21 => ("ServiceRows2Model", "routine", "[I", true)
  | 22 => ("ServiceRows2Model", "steps", "[I", true)
  | 23 => ("ServiceRows2Model", "started", "[Z", true)
  | 24 => ("ServiceRows2Model", "left", "[I", true)
  | 25 => ("ServiceRows2Model", "pended", "[I", true)
  | 26 => ("ServiceRows2Model", "open", "Z", false)
  | 27 => ("ServiceRows2Model", "size", "I", false)
  | 28 => ("ServiceRows2Model", "taken", "I", false)
  | 29 => ("ServiceRows2Model", "sum", "I", false)
  | 30 => ("ServiceRows2Model", "block", "I", false)
  | 31 => ("ServiceRows2Model", "hasBlock", "Z", false)
  | 32 => ("ServiceRows2Model", "missing", "I", false)
  | 33 => ("ServiceRows2Model", "begun", "Z", false)
  | 34 => ("ServiceRows2Model", "underAll", "Z", false)
  | 35 => ("ServiceRows2Model", "under", "I", false)
  | 36 => ("ServiceRows2Model", "underRow", "[I", true)
  | 37 => ("ServiceRows2Model", "all", "Z", false)
  | 38 => ("ServiceRows2Model", "many", "I", false)
  | 39 => ("ServiceRows2Model", "row", "[I", true)
  | 40 => ("ServiceRows2Model", "answers", "I", false)
  | 41 => ("ServiceRows2Model", "answer", "[I", true)
  | _ => ("ServiceRows2Model", "failed", "I", false)
def tyX6 : Nat → FieldType := fun k => match k with
  | 0 => .int
  | 1 => .int
  | 2 => .int
  | 3 => .long
  | 4 => .long
  | 5 => .boolean
  | 6 => .boolean
  | 7 => .int
  | 8 => .int
  | 9 => .array .int
  | 10 => .array .int
  | 11 => .array .int
  | 12 => .array .int
  | 13 => .array .long
  | 14 => .array .boolean
  | 15 => .array .long
  | 16 => .array .boolean
  | 17 => .array .boolean
  | 18 => .array .int
  | 19 => .array .int
  | 20 => .int
  | 21 => .array .int
  | 22 => .array .int
  | 23 => .array .boolean
  | 24 => .array .int
  | 25 => .array .int
  | 26 => .boolean
  | 27 => .int
  | 28 => .int
  | 29 => .int
  | 30 => .int
  | 31 => .boolean
  | 32 => .int
  | 33 => .boolean
  | 34 => .boolean
  | 35 => .int
  | 36 => .array .int
  | 37 => .boolean
  | 38 => .int
  | 39 => .array .int
  | 40 => .int
  | 41 => .array .int
  | _ => .int
abbrev wsX60 : List Cond := u_ws RX6 TX6 43
theorem nmX6 : ∀ a, a < 43 → ∀ b, b < 43 → a ≠ b → (TX6 a).2.1 ≠ (TX6 b).2.1 := by decide +kernel
theorem tyX6_ok : ∀ k, k < 43 → parseFieldDescriptor (TX6 k).2.2.1 = some (tyX6 k) := by decide +kernel
abbrev cX6_init : ByteArray := prog_8_method_1_code
def yX6_init : MethodName := ⟨RX6, "<init>", "()V"⟩
abbrev cX6_thrown : ByteArray := prog_8_method_2_code
def yX6_thrown : MethodName := ⟨RX6, "thrown", "()I"⟩
abbrev cX6_find : ByteArray := prog_8_method_3_code
def yX6_find : MethodName := ⟨RX6, "find", "(I)I"⟩
abbrev cX6_isIn : ByteArray := prog_8_method_4_code
def yX6_isIn : MethodName := ⟨RX6, "isIn", "(JJJ)Z"⟩
abbrev cX6_add : ByteArray := prog_8_method_5_code
def yX6_add : MethodName := ⟨RX6, "add", "(IIII)I"⟩
abbrev cX6_identifier : ByteArray := prog_8_method_6_code
def yX6_identifier : MethodName := ⟨RX6, "identifier", "(IIII)I"⟩
abbrev cX6_dynamic : ByteArray := prog_8_method_7_code
def yX6_dynamic : MethodName := ⟨RX6, "dynamic", "(III)I"⟩
abbrev cX6_routine : ByteArray := prog_8_method_8_code
def yX6_routine : MethodName := ⟨RX6, "routine", "(II)I"⟩
abbrev cX6_condition : ByteArray := prog_8_method_9_code
def yX6_condition : MethodName := ⟨RX6, "condition", "(IZ)I"⟩
abbrev cX6_rights : ByteArray := prog_8_method_10_code
def yX6_rights : MethodName := ⟨RX6, "rights", "(I)I"⟩
abbrev cX6_control : ByteArray := prog_8_method_11_code
def yX6_control : MethodName := ⟨RX6, "control", "(IIJ)I"⟩
abbrev cX6_pending : ByteArray := prog_8_method_12_code
def yX6_pending : MethodName := ⟨RX6, "pending", "(I)I"⟩
abbrev cX6_octet : ByteArray := prog_8_method_13_code
def yX6_octet : MethodName := ⟨RX6, "octet", "(II)I"⟩
abbrev cX6_valueOf : ByteArray := prog_8_method_14_code
def yX6_valueOf : MethodName := ⟨RX6, "valueOf", "(I)J"⟩
abbrev cX6_value : ByteArray := prog_8_method_15_code
def yX6_value : MethodName := ⟨RX6, "value", "(I)J"⟩
abbrev cX6_told : ByteArray := prog_8_method_16_code
def yX6_told : MethodName := ⟨RX6, "told", "(I)I"⟩
abbrev cX6_number : ByteArray := prog_8_method_17_code
def yX6_number : MethodName := ⟨RX6, "number", "(II)J"⟩
abbrev cX6_say : ByteArray := prog_8_method_18_code
def yX6_say : MethodName := ⟨RX6, "say", "(I)V"⟩
abbrev cX6_threeSaid : ByteArray := prog_8_method_19_code
def yX6_threeSaid : MethodName := ⟨RX6, "threeSaid", "(III)V"⟩
abbrev cX6_ends : ByteArray := prog_8_method_20_code
def yX6_ends : MethodName := ⟨RX6, "ends", "(I)V"⟩
abbrev cX6_isHere : ByteArray := prog_8_method_21_code
def yX6_isHere : MethodName := ⟨RX6, "isHere", "(I)Z"⟩
abbrev cX6_served : ByteArray := prog_8_method_22_code
def yX6_served : MethodName := ⟨RX6, "served", "()I"⟩
abbrev cX6_read : ByteArray := prog_8_method_23_code
def yX6_read : MethodName := ⟨RX6, "read", "(I)I"⟩
abbrev cX6_write : ByteArray := prog_8_method_24_code
def yX6_write : MethodName := ⟨RX6, "write", "(I)I"⟩
abbrev cX6_controls : ByteArray := prog_8_method_25_code
def yX6_controls : MethodName := ⟨RX6, "controls", "(I)I"⟩
abbrev cX6_runs : ByteArray := prog_8_method_26_code
def yX6_runs : MethodName := ⟨RX6, "runs", "(II)I"⟩
abbrev cX6_takes : ByteArray := prog_8_method_27_code
def yX6_takes : MethodName := ⟨RX6, "takes", "(I)I"⟩
abbrev cX6_looked : ByteArray := prog_8_method_28_code
def yX6_looked : MethodName := ⟨RX6, "looked", "()I"⟩
abbrev cX6_ask : ByteArray := prog_8_method_29_code
def yX6_ask : MethodName := ⟨RX6, "ask", "(B)I"⟩
abbrev cX6_answer : ByteArray := prog_8_method_30_code
def yX6_answer : MethodName := ⟨RX6, "answer", "(I)B"⟩
abbrev cX6_code : ByteArray := prog_8_method_31_code
def yX6_code : MethodName := ⟨RX6, "code", "()I"⟩
abbrev cX6_transfer : ByteArray := prog_8_method_32_code
def yX6_transfer : MethodName := ⟨RX6, "transfer", "(IB)I"⟩
abbrev cX6_tick : ByteArray := prog_8_method_33_code
def yX6_tick : MethodName := ⟨RX6, "tick", "(J)I"⟩
def RJx00060 : String := "java/lang/ArrayIndexOutOfBoundsException"
def TJx00060 : u_T := fun k => match k with
  | 0 => ("java/lang/Throwable", "cause", "Ljava/lang/Throwable;", false)
  | 1 => ("java/lang/Throwable", "stackTrace", "[Ljava/lang/StackTraceElement;", false)
  | 2 => ("java/lang/Throwable", "suppressedExceptions", "Ljava/util/List;", false)
  | 3 => ("java/lang/Throwable", "detailMessage", "Ljava/lang/String;", false)
  | 4 => ("java/lang/Throwable", "backtrace", "Ljava/lang/Object;", false)
  | _ => ("java/lang/Throwable", "depth", "I", false)
def tyJx00060 : Nat → FieldType := fun k => match k with
  | 0 => .object "java/lang/Throwable"
  | 1 => .array (.object "java/lang/StackTraceElement")
  | 2 => .object "java/util/List"
  | 3 => .object "java/lang/String"
  | 4 => .object "java/lang/Object"
  | _ => .int
abbrev wsJx000600 : List Cond := u_ws RJx00060 TJx00060 6
theorem nmJx00060 : ∀ a, a < 6 → ∀ b, b < 6 → a ≠ b → (TJx00060 a).2.1 ≠ (TJx00060 b).2.1 := by decide +kernel
theorem tyJx00060_ok : ∀ k, k < 6 → parseFieldDescriptor (TJx00060 k).2.2.1 = some (tyJx00060 k) := by decide +kernel
abbrev cJx00060_init_a7421 : ByteArray := prog_9_method_2_code
def yJx00060_init_a7421 : MethodName := ⟨RJx00060, "<init>", "(Ljava/lang/String;)V"⟩
def RJ9 : String := "java/lang/Math"
def TJ9 : u_T := fun k => match k with
  | _ => ("", "", "", false)
def tyJ9 : Nat → FieldType := fun k => match k with
  | _ => .int
abbrev wsJ90 : List Cond := u_ws RJ9 TJ9 0
theorem nmJ9 : ∀ a, a < 0 → ∀ b, b < 0 → a ≠ b → (TJ9 a).2.1 ≠ (TJ9 b).2.1 := by decide +kernel
theorem tyJ9_ok : ∀ k, k < 0 → parseFieldDescriptor (TJ9 k).2.2.1 = some (tyJ9 k) := by decide +kernel
abbrev cJ9_min_7cf53 : ByteArray := prog_12_method_69_code
def yJ9_min_7cf53 : MethodName := ⟨RJ9, "min", "(II)I"⟩
def RJ0 : String := "java/lang/String"
def TJ0 : u_T := fun k => match k with
  | _ => ("", "", "", false)
def tyJ0 : Nat → FieldType := fun k => match k with
  | _ => .int
abbrev wsJ00 : List Cond := u_ws RJ0 TJ0 0
theorem nmJ0 : ∀ a, a < 0 → ∀ b, b < 0 → a ≠ b → (TJ0 a).2.1 ≠ (TJ0 b).2.1 := by decide +kernel
theorem tyJ0_ok : ∀ k, k < 0 → parseFieldDescriptor (TJ0 k).2.2.1 = some (tyJ0 k) := by decide +kernel
def RL : String := "ServiceRows2Law"
abbrev cL_answer : ByteArray := method_3_code
def yL_answer : MethodName := ⟨RL, "answer", "(LServiceRows2;I[J)I"⟩
abbrev cL_law : ByteArray := code
def yL_law : MethodName := ⟨RL, "law", "([I)Z"⟩
def wsL_law_r1 : List Cond := [Cond.classLink RL 8 RX5, Cond.instantiable RX5 16, Cond.initialized RX5, Cond.classLink RL 16 RX6, Cond.instantiable RX6 43, Cond.initialized RX6, Cond.arrayClass .long, Cond.constantLong RL 44 (4294967295), Cond.methodLink RL 15 yX5_init, Cond.instanceMethod yX5_init, Cond.code yX5_init cX5_init 1 none, Cond.methodLink RX5 1 objectInit, Cond.instanceMethod objectInit, Cond.code objectInit ⟨#[0xb1]⟩ 1 none, Cond.classLink RX5 9 RX1, Cond.fieldLink RX5 11 "ServiceRows2" "identifiers" "[LServiceRows2$Identifier;", Cond.fieldLink RX5 15 "ServiceRows2" "identifierCount" "I", Cond.classLink RX5 19 RX3, Cond.fieldLink RX5 21 "ServiceRows2" "routines" "[LServiceRows2$Routine;", Cond.fieldLink RX5 25 "ServiceRows2" "routineCount" "I", Cond.fieldLink RX5 28 "ServiceRows2" "standing" "Z", Cond.fieldLink RX5 32 "ServiceRows2" "quiet" "Z", Cond.fieldLink RX5 35 "ServiceRows2" "session" "I", Cond.fieldLink RX5 38 "ServiceRows2" "level" "I"]
def wsL_law_r2 : List Cond := [Cond.fieldLink RX5 41 "ServiceRows2" "bound" "I", Cond.fieldLink RX5 44 "ServiceRows2" "time" "J", Cond.fieldLink RX5 48 "ServiceRows2" "questionTime" "J", Cond.fieldLink RX5 51 "ServiceRows2" "lastCode" "I", Cond.classLink RX5 54 RX2, Cond.instantiable RX2 5, Cond.initialized RX2, Cond.fieldLink RX5 57 "ServiceRows2" "asked" "LServiceRows2$Question;", Cond.fieldLink RX5 61 "ServiceRows2" "block" "LServiceRows2$Question;", Cond.classLink RX5 64 RX0, Cond.instantiable RX0 2, Cond.initialized RX0, Cond.fieldLink RX5 67 "ServiceRows2" "reply" "LServiceRows2$Answer;", Cond.classLink RX5 71 RX4, Cond.instantiable RX4 4, Cond.initialized RX4, Cond.fieldLink RX5 74 "ServiceRows2" "moved" "LServiceRows2$Transfer;", Cond.instanceMethod yX2_init, Cond.code yX2_init cX2_init 1 none, Cond.methodLink RX2 3 objectInit, Cond.arrayClass .byte, Cond.fieldLink RX2 9 "ServiceRows2$Question" "octets" "[B", Cond.fieldLink RX2 15 "ServiceRows2$Question" "isBegun" "Z", Cond.fieldLink RX2 19 "ServiceRows2$Question" "due" "I"]
def wsL_law_r3 : List Cond := [Cond.fieldLink RX2 23 "ServiceRows2$Question" "count" "I", Cond.fieldLink RX2 26 "ServiceRows2$Question" "isToAll" "Z", Cond.instanceMethod yX0_init, Cond.code yX0_init cX0_init 1 none, Cond.methodLink RX0 3 objectInit, Cond.fieldLink RX0 9 "ServiceRows2$Answer" "octets" "[B", Cond.fieldLink RX0 15 "ServiceRows2$Answer" "length" "I", Cond.instanceMethod yX4_init, Cond.code yX4_init cX4_init 1 none, Cond.methodLink RX4 1 objectInit, Cond.fieldLink RX4 7 "ServiceRows2$Transfer" "isOpen" "Z", Cond.fieldLink RX4 13 "ServiceRows2$Transfer" "missing" "I", Cond.fieldLink RX4 17 "ServiceRows2$Transfer" "sum" "I", Cond.fieldLink RX4 20 "ServiceRows2$Transfer" "blocks" "I", Cond.methodLink RL 18 yX6_init, Cond.instanceMethod yX6_init, Cond.code yX6_init cX6_init 1 none, Cond.methodLink RX6 1 objectInit, Cond.fieldLink RX6 7 "ServiceRows2Model" "present" "I", Cond.fieldLink RX6 13 "ServiceRows2Model" "standing" "Z", Cond.fieldLink RX6 17 "ServiceRows2Model" "quiet" "Z", Cond.arrayClass .int, Cond.fieldLink RX6 20 "ServiceRows2Model" "id" "[I", Cond.fieldLink RX6 24 "ServiceRows2Model" "length" "[I"]
def wsL_law_r4 : List Cond := [Cond.fieldLink RX6 27 "ServiceRows2Model" "session" "[I", Cond.fieldLink RX6 30 "ServiceRows2Model" "needs" "[I", Cond.fieldLink RX6 33 "ServiceRows2Model" "own" "[J", Cond.arrayClass .boolean, Cond.fieldLink RX6 37 "ServiceRows2Model" "controlled" "[Z", Cond.fieldLink RX6 41 "ServiceRows2Model" "control" "[J", Cond.fieldLink RX6 44 "ServiceRows2Model" "kept" "[Z", Cond.fieldLink RX6 47 "ServiceRows2Model" "joined" "[Z", Cond.fieldLink RX6 50 "ServiceRows2Model" "partOf" "[I", Cond.fieldLink RX6 53 "ServiceRows2Model" "partAt" "[I", Cond.fieldLink RX6 56 "ServiceRows2Model" "routine" "[I", Cond.fieldLink RX6 59 "ServiceRows2Model" "steps" "[I", Cond.fieldLink RX6 62 "ServiceRows2Model" "started" "[Z", Cond.fieldLink RX6 65 "ServiceRows2Model" "left" "[I", Cond.fieldLink RX6 68 "ServiceRows2Model" "pended" "[I", Cond.fieldLink RX6 71 "ServiceRows2Model" "underRow" "[I", Cond.fieldLink RX6 74 "ServiceRows2Model" "row" "[I", Cond.fieldLink RX6 77 "ServiceRows2Model" "answer" "[I", Cond.fieldLink RX6 80 "ServiceRows2Model" "failed" "I", Cond.methodLink RL 19 yX5_identifier, Cond.instanceMethod yX5_identifier, Cond.selects RX5 yX5_identifier yX5_identifier, Cond.code yX5_identifier cX5_identifier 5 (some .int), Cond.constant RX5 78 (65535)]
def wsL_law_r5 : List Cond := [Cond.instantiable RX1 11, Cond.initialized RX1, Cond.methodLink RX5 79 yX5_isWithin, Cond.static yX5_isWithin, Cond.code yX5_isWithin cX5_isWithin 3 (some .boolean), Cond.methodLink RX5 83 yX5_findIdentifier, Cond.instanceMethod yX5_findIdentifier, Cond.selects RX5 yX5_findIdentifier yX5_findIdentifier, Cond.code yX5_findIdentifier cX5_findIdentifier 4 (some (.object "ServiceRows2$Identifier")), Cond.fieldLink RX5 166 "ServiceRows2$Identifier" "id" "I", Cond.methodLink RX5 87 yX5_hasRoomForIdentifier, Cond.instanceMethod yX5_hasRoomForIdentifier, Cond.selects RX5 yX5_hasRoomForIdentifier yX5_hasRoomForIdentifier, Cond.code yX5_hasRoomForIdentifier cX5_hasRoomForIdentifier 1 (some .boolean), Cond.methodLink RX5 91 yX1_init, Cond.instanceMethod yX1_init, Cond.code yX1_init cX1_init 6 none, Cond.methodLink RX1 3 objectInit, Cond.fieldLink RX1 9 "ServiceRows2$Identifier" "mayBeWritten" "Z", Cond.fieldLink RX1 15 "ServiceRows2$Identifier" "own" "J", Cond.fieldLink RX1 19 "ServiceRows2$Identifier" "isHeld" "Z", Cond.fieldLink RX1 22 "ServiceRows2$Identifier" "held" "J", Cond.fieldLink RX1 25 "ServiceRows2$Identifier" "id" "I", Cond.fieldLink RX1 29 "ServiceRows2$Identifier" "length" "I"]
def wsL_law_r6 : List Cond := [Cond.fieldLink RX1 32 "ServiceRows2$Identifier" "session" "I", Cond.fieldLink RX1 35 "ServiceRows2$Identifier" "level" "I", Cond.fieldLink RX1 38 "ServiceRows2$Identifier" "isTogether" "Z", Cond.classLink RX1 10 RX1, Cond.fieldLink RX1 41 "ServiceRows2$Identifier" "sources" "[LServiceRows2$Identifier;", Cond.fieldLink RX1 45 "ServiceRows2$Identifier" "places" "[I", Cond.methodLink RX5 94 yX5_addIdentifier, Cond.instanceMethod yX5_addIdentifier, Cond.selects RX5 yX5_addIdentifier yX5_addIdentifier, Cond.code yX5_addIdentifier cX5_addIdentifier 2 none, Cond.methodLink RL 23 yX6_identifier, Cond.instanceMethod yX6_identifier, Cond.selects RX6 yX6_identifier yX6_identifier, Cond.code yX6_identifier cX6_identifier 5 (some .int), Cond.fieldLink RX6 83 "ServiceRows2Model" "thrown" "I", Cond.constantLong RX6 89 (65535), Cond.constantLong RX6 95 (8), Cond.constantLong RX6 97 (3), Cond.fieldLink RX6 86 "ServiceRows2Model" "ids" "I", Cond.methodLink RX6 91 yX6_isIn, Cond.static yX6_isIn, Cond.code yX6_isIn cX6_isIn 6 (some .boolean), Cond.methodLink RX6 99 yX6_find, Cond.instanceMethod yX6_find]
def wsL_law_r7 : List Cond := [Cond.selects RX6 yX6_find yX6_find, Cond.code yX6_find cX6_find 3 (some .int), Cond.methodLink RX6 103 yX6_add, Cond.instanceMethod yX6_add, Cond.selects RX6 yX6_add yX6_add, Cond.code yX6_add cX6_add 5 (some .int), Cond.methodLink RL 24 yX5_dynamic, Cond.instanceMethod yX5_dynamic, Cond.selects RX5 yX5_dynamic yX5_dynamic, Cond.code yX5_dynamic cX5_dynamic 6 (some .int), Cond.fieldLink RX5 98 "ServiceRows2$Identifier" "length" "I", Cond.fieldLink RX5 101 "ServiceRows2$Identifier" "isTogether" "Z", Cond.methodLink RX5 104 yX1_append, Cond.instanceMethod yX1_append, Cond.selects RX1 yX1_append yX1_append, Cond.code yX1_append cX1_append 4 none, Cond.methodLink RL 28 yX6_dynamic, Cond.instanceMethod yX6_dynamic, Cond.selects RX6 yX6_dynamic yX6_dynamic, Cond.code yX6_dynamic cX6_dynamic 8 (some .int), Cond.methodLink RL 29 yX5_routine, Cond.instanceMethod yX5_routine, Cond.selects RX5 yX5_routine yX5_routine, Cond.code yX5_routine cX5_routine 3 (some .int)]
def wsL_law_r8 : List Cond := [Cond.instantiable RX3 5, Cond.initialized RX3, Cond.methodLink RX5 108 yX5_findRoutine, Cond.instanceMethod yX5_findRoutine, Cond.selects RX5 yX5_findRoutine yX5_findRoutine, Cond.code yX5_findRoutine cX5_findRoutine 4 (some (.object "ServiceRows2$Routine")), Cond.fieldLink RX5 169 "ServiceRows2$Routine" "id" "I", Cond.methodLink RX5 112 yX3_init, Cond.instanceMethod yX3_init, Cond.code yX3_init cX3_init 3 none, Cond.methodLink RX3 1 objectInit, Cond.fieldLink RX3 7 "ServiceRows2$Routine" "isStarted" "Z", Cond.fieldLink RX3 13 "ServiceRows2$Routine" "left" "I", Cond.fieldLink RX3 17 "ServiceRows2$Routine" "waitsTold" "I", Cond.fieldLink RX3 20 "ServiceRows2$Routine" "id" "I", Cond.fieldLink RX3 23 "ServiceRows2$Routine" "steps" "I", Cond.methodLink RL 33 yX6_routine, Cond.instanceMethod yX6_routine, Cond.selects RX6 yX6_routine yX6_routine, Cond.code yX6_routine cX6_routine 4 (some .int), Cond.constantLong RX6 107 (100), Cond.fieldLink RX6 109 "ServiceRows2Model" "routines" "I", Cond.methodLink RL 34 yX5_condition, Cond.instanceMethod yX5_condition]
def wsL_law_r9 : List Cond := [Cond.selects RX5 yX5_condition yX5_condition, Cond.code yX5_condition cX5_condition 3 (some .int), Cond.methodLink RL 38 yX6_condition, Cond.instanceMethod yX6_condition, Cond.selects RX6 yX6_condition yX6_condition, Cond.code yX6_condition cX6_condition 3 (some .int), Cond.methodLink RL 39 yX5_rights, Cond.instanceMethod yX5_rights, Cond.selects RX5 yX5_rights yX5_rights, Cond.code yX5_rights cX5_rights 3 (some .int), Cond.methodLink RL 43 yX6_rights, Cond.instanceMethod yX6_rights, Cond.selects RX6 yX6_rights yX6_rights, Cond.code yX6_rights cX6_rights 3 (some .int), Cond.fieldLink RX6 112 "ServiceRows2Model" "level" "I", Cond.methodLink RL 46 yX5_control, Cond.instanceMethod yX5_control, Cond.selects RX5 yX5_control yX5_control, Cond.code yX5_control cX5_control 6 (some .int), Cond.fieldLink RX5 115 "ServiceRows2$Identifier" "own" "J", Cond.fieldLink RX5 118 "ServiceRows2$Identifier" "mayBeWritten" "Z", Cond.methodLink RL 50 yX6_control, Cond.instanceMethod yX6_control, Cond.selects RX6 yX6_control yX6_control]
def wsL_law_r10 : List Cond := [Cond.code yX6_control cX6_control 6 (some .int), Cond.methodLink RL 51 yX5_pending, Cond.instanceMethod yX5_pending, Cond.selects RX5 yX5_pending yX5_pending, Cond.code yX5_pending cX5_pending 3 (some .int), Cond.methodLink RL 54 yX6_pending, Cond.instanceMethod yX6_pending, Cond.selects RX6 yX6_pending yX6_pending, Cond.code yX6_pending cX6_pending 3 (some .int), Cond.constantLong RX6 115 (10), Cond.fieldLink RX6 117 "ServiceRows2Model" "bound" "I", Cond.methodLink RL 55 yX5_ask, Cond.instanceMethod yX5_ask, Cond.selects RX5 yX5_ask yX5_ask, Cond.code yX5_ask cX5_ask 2 (some .int), Cond.fieldLink RX5 132 "ServiceRows2$Answer" "length" "I", Cond.methodLink RX5 121 yX2_take, Cond.instanceMethod yX2_take, Cond.selects RX2 yX2_take yX2_take, Cond.code yX2_take cX2_take 2 none, Cond.methodLink RX2 29 Lib.Math.min.name, Cond.static Lib.Math.min.name, Cond.initialized "java/lang/Math", Cond.code Lib.Math.min.name Lib.Math.min.code 2 (some .int)]
def wsL_law_r11 : List Cond := [Cond.methodLink RX5 125 yX2_isWhole, Cond.instanceMethod yX2_isWhole, Cond.selects RX2 yX2_isWhole yX2_isWhole, Cond.code yX2_isWhole cX2_isWhole 1 (some .boolean), Cond.methodLink RX5 128 yX5_conclude, Cond.instanceMethod yX5_conclude, Cond.selects RX5 yX5_conclude yX5_conclude, Cond.code yX5_conclude cX5_conclude 2 none, Cond.fieldLink RX5 184 "ServiceRows2$Question" "isToAll" "Z", Cond.methodLink RX5 177 yX0_clear, Cond.instanceMethod yX0_clear, Cond.selects RX0 yX0_clear yX0_clear, Cond.code yX0_clear cX0_clear 1 none, Cond.methodLink RX5 180 yX5_serve, Cond.instanceMethod yX5_serve, Cond.selects RX5 yX5_serve yX5_serve, Cond.code yX5_serve cX5_serve 2 (some .int), Cond.methodLink RX5 203 yX2_isEmpty, Cond.instanceMethod yX2_isEmpty, Cond.selects RX2 yX2_isEmpty yX2_isEmpty, Cond.code yX2_isEmpty cX2_isEmpty 1 (some .boolean), Cond.methodLink RX5 193 yX2_service, Cond.instanceMethod yX2_service, Cond.selects RX2 yX2_service yX2_service]
def wsL_law_r12 : List Cond := [Cond.code yX2_service cX2_service 1 (some .int), Cond.methodLink RX5 206 yX5_changeSession, Cond.instanceMethod yX5_changeSession, Cond.selects RX5 yX5_changeSession yX5_changeSession, Cond.code yX5_changeSession cX5_changeSession 3 (some .int), Cond.methodLink RX5 236 yX2_size, Cond.instanceMethod yX2_size, Cond.selects RX2 yX2_size yX2_size, Cond.code yX2_size cX2_size 1 (some .int), Cond.methodLink RX5 239 yX2_function, Cond.instanceMethod yX2_function, Cond.selects RX2 yX2_function yX2_function, Cond.code yX2_function cX2_function 1 (some .int), Cond.methodLink RX2 35 yX2_octetAt, Cond.instanceMethod yX2_octetAt, Cond.selects RX2 yX2_octetAt yX2_octetAt, Cond.code yX2_octetAt cX2_octetAt 3 (some .int), Cond.methodLink RX5 158 yX5_endSession, Cond.instanceMethod yX5_endSession, Cond.selects RX5 yX5_endSession yX5_endSession, Cond.code yX5_endSession cX5_endSession 4 none, Cond.methodLink RX5 171 yX1_release, Cond.instanceMethod yX1_release, Cond.selects RX1 yX1_release yX1_release]
def wsL_law_r13 : List Cond := [Cond.code yX1_release cX1_release 1 none, Cond.methodLink RX5 174 yX4_close, Cond.instanceMethod yX4_close, Cond.selects RX4 yX4_close yX4_close, Cond.code yX4_close cX4_close 1 none, Cond.methodLink RX5 242 yX5_beginReply, Cond.instanceMethod yX5_beginReply, Cond.selects RX5 yX5_beginReply yX5_beginReply, Cond.code yX5_beginReply cX5_beginReply 2 none, Cond.methodLink RX5 190 yX0_put, Cond.instanceMethod yX0_put, Cond.selects RX0 yX0_put yX0_put, Cond.code yX0_put cX0_put 2 none, Cond.methodLink RX5 209 yX5_reset, Cond.instanceMethod yX5_reset, Cond.selects RX5 yX5_reset yX5_reset, Cond.code yX5_reset cX5_reset 3 (some .int), Cond.methodLink RX5 245 yX5_forgetRoutines, Cond.instanceMethod yX5_forgetRoutines, Cond.selects RX5 yX5_forgetRoutines yX5_forgetRoutines, Cond.code yX5_forgetRoutines cX5_forgetRoutines 3 none, Cond.methodLink RX5 251 yX3_forget, Cond.instanceMethod yX3_forget, Cond.selects RX3 yX3_forget yX3_forget]
def wsL_law_r14 : List Cond := [Cond.code yX3_forget cX3_forget 1 none, Cond.methodLink RX5 248 yX5_clearOwnValues, Cond.instanceMethod yX5_clearOwnValues, Cond.selects RX5 yX5_clearOwnValues yX5_clearOwnValues, Cond.code yX5_clearOwnValues cX5_clearOwnValues 3 none, Cond.methodLink RX5 212 yX5_read, Cond.instanceMethod yX5_read, Cond.selects RX5 yX5_read yX5_read, Cond.code yX5_read cX5_read 7 (some .int), Cond.fieldLink RX5 261 "ServiceRows2$Identifier" "level" "I", Cond.methodLink RX5 254 yX2_word, Cond.instanceMethod yX2_word, Cond.selects RX2 yX2_word yX2_word, Cond.code yX2_word cX2_word 2 (some .int), Cond.methodLink RX5 258 yX5_findHere, Cond.instanceMethod yX5_findHere, Cond.selects RX5 yX5_findHere yX5_findHere, Cond.code yX5_findHere cX5_findHere 3 (some (.object "ServiceRows2$Identifier")), Cond.fieldLink RX5 170 "ServiceRows2$Identifier" "session" "I", Cond.methodLink RX5 262 yX5_replyOctetsOf, Cond.instanceMethod yX5_replyOctetsOf, Cond.selects RX5 yX5_replyOctetsOf yX5_replyOctetsOf, Cond.code yX5_replyOctetsOf cX5_replyOctetsOf 3 none, Cond.methodLink RX5 265 yX0_putWord]
def wsL_law_r15 : List Cond := [Cond.instanceMethod yX0_putWord, Cond.selects RX0 yX0_putWord yX0_putWord, Cond.code yX0_putWord cX0_putWord 2 none, Cond.methodLink RX0 19 yX0_put, Cond.methodLink RX5 268 yX1_octetAt, Cond.instanceMethod yX1_octetAt, Cond.selects RX1 yX1_octetAt yX1_octetAt, Cond.code yX1_octetAt cX1_octetAt 3 (some .int), Cond.methodLink RX1 49 yX1_ordinaryOctetAt, Cond.instanceMethod yX1_ordinaryOctetAt, Cond.selects RX1 yX1_ordinaryOctetAt yX1_ordinaryOctetAt, Cond.code yX1_ordinaryOctetAt cX1_ordinaryOctetAt 4 (some .int), Cond.methodLink RX5 215 yX5_write, Cond.instanceMethod yX5_write, Cond.selects RX5 yX5_write yX5_write, Cond.code yX5_write cX5_write 4 (some .int), Cond.methodLink RX5 270 yX2_number, Cond.instanceMethod yX2_number, Cond.selects RX2 yX2_number yX2_number, Cond.code yX2_number cX2_number 6 (some .long), Cond.methodLink RX5 218 yX5_takeControl, Cond.instanceMethod yX5_takeControl, Cond.selects RX5 yX5_takeControl yX5_takeControl, Cond.code yX5_takeControl cX5_takeControl 5 (some .int)]
def wsL_law_r16 : List Cond := [Cond.methodLink RX5 273 yX2_octetAt, Cond.methodLink RX5 274 yX5_setControl, Cond.static yX5_setControl, Cond.code yX5_setControl cX5_setControl 3 none, Cond.methodLink RX5 278 yX1_hold, Cond.instanceMethod yX1_hold, Cond.selects RX1 yX1_hold yX1_hold, Cond.code yX1_hold cX1_hold 3 none, Cond.methodLink RX5 162 yX1_number, Cond.instanceMethod yX1_number, Cond.selects RX1 yX1_number yX1_number, Cond.code yX1_number cX1_number 4 (some .long), Cond.methodLink RX1 53 yX1_octetAt, Cond.methodLink RX5 221 yX5_handleRoutine, Cond.instanceMethod yX5_handleRoutine, Cond.selects RX5 yX5_handleRoutine yX5_handleRoutine, Cond.code yX5_handleRoutine cX5_handleRoutine 5 (some .int), Cond.fieldLink RX5 286 "ServiceRows2$Routine" "left" "I", Cond.methodLink RX5 282 yX5_applyToRoutine, Cond.instanceMethod yX5_applyToRoutine, Cond.selects RX5 yX5_applyToRoutine yX5_applyToRoutine, Cond.code yX5_applyToRoutine cX5_applyToRoutine 3 (some .int), Cond.fieldLink RX5 293 "ServiceRows2$Routine" "isStarted" "Z", Cond.methodLink RX5 289 yX5_startRoutine]
def wsL_law_r17 : List Cond := [Cond.instanceMethod yX5_startRoutine, Cond.selects RX5 yX5_startRoutine yX5_startRoutine, Cond.code yX5_startRoutine cX5_startRoutine 2 (some .int), Cond.methodLink RX5 299 yX3_start, Cond.instanceMethod yX3_start, Cond.selects RX3 yX3_start yX3_start, Cond.code yX3_start cX3_start 1 none, Cond.methodLink RX5 296 yX5_askResult, Cond.instanceMethod yX5_askResult, Cond.selects RX5 yX5_askResult yX5_askResult, Cond.code yX5_askResult cX5_askResult 2 (some .int), Cond.fieldLink RX5 302 "ServiceRows2$Routine" "waitsTold" "I", Cond.methodLink RX5 224 yX5_openTransfer, Cond.instanceMethod yX5_openTransfer, Cond.selects RX5 yX5_openTransfer yX5_openTransfer, Cond.code yX5_openTransfer cX5_openTransfer 3 (some .int), Cond.fieldLink RX5 305 "ServiceRows2$Transfer" "isOpen" "Z", Cond.methodLink RX5 308 yX4_open, Cond.instanceMethod yX4_open, Cond.selects RX4 yX4_open yX4_open, Cond.code yX4_open cX4_open 2 none, Cond.methodLink RX5 227 yX5_takeBlock, Cond.instanceMethod yX5_takeBlock, Cond.selects RX5 yX5_takeBlock yX5_takeBlock]
def wsL_law_r18 : List Cond := [Cond.code yX5_takeBlock cX5_takeBlock 4 (some .int), Cond.fieldLink RX5 148 "ServiceRows2$Transfer" "missing" "I", Cond.methodLink RX5 311 yX4_isBlockBefore, Cond.instanceMethod yX4_isBlockBefore, Cond.selects RX4 yX4_isBlockBefore yX4_isBlockBefore, Cond.code yX4_isBlockBefore cX4_isBlockBefore 2 (some .boolean), Cond.methodLink RX5 314 yX4_nextBlock, Cond.instanceMethod yX4_nextBlock, Cond.selects RX4 yX4_nextBlock yX4_nextBlock, Cond.code yX4_nextBlock cX4_nextBlock 1 (some .int), Cond.methodLink RX5 317 yX4_add, Cond.instanceMethod yX4_add, Cond.selects RX4 yX4_add yX4_add, Cond.code yX4_add cX4_add 4 none, Cond.constant RX4 29 (65535), Cond.methodLink RX4 23 yX2_octetAt, Cond.methodLink RX5 230 yX5_closeTransfer, Cond.instanceMethod yX5_closeTransfer, Cond.selects RX5 yX5_closeTransfer yX5_closeTransfer, Cond.code yX5_closeTransfer cX5_closeTransfer 3 (some .int), Cond.fieldLink RX5 321 "ServiceRows2$Transfer" "sum" "I", Cond.methodLink RX5 233 yX5_stayPresent, Cond.instanceMethod yX5_stayPresent, Cond.selects RX5 yX5_stayPresent yX5_stayPresent]
def wsL_law_r19 : List Cond := [Cond.code yX5_stayPresent cX5_stayPresent 2 (some .int), Cond.methodLink RX5 187 yX5_isKeptFromAll, Cond.static yX5_isKeptFromAll, Cond.code yX5_isKeptFromAll cX5_isKeptFromAll 1 (some .boolean), Cond.methodLink RX5 197 yX2_wantsNoAnswer, Cond.instanceMethod yX2_wantsNoAnswer, Cond.selects RX2 yX2_wantsNoAnswer yX2_wantsNoAnswer, Cond.code yX2_wantsNoAnswer cX2_wantsNoAnswer 2 (some .boolean), Cond.methodLink RX2 39 yX2_service, Cond.methodLink RX5 200 yX2_end, Cond.instanceMethod yX2_end, Cond.selects RX2 yX2_end yX2_end, Cond.code yX2_end cX2_end 1 none, Cond.methodLink RL 59 yX6_ask, Cond.instanceMethod yX6_ask, Cond.selects RX6 yX6_ask yX6_ask, Cond.code yX6_ask cX6_ask 4 (some .int), Cond.fieldLink RX6 206 "ServiceRows2Model" "begun" "Z", Cond.fieldLink RX6 209 "ServiceRows2Model" "missing" "I", Cond.fieldLink RX6 212 "ServiceRows2Model" "underAll" "Z", Cond.fieldLink RX6 215 "ServiceRows2Model" "under" "I", Cond.fieldLink RX6 203 "ServiceRows2Model" "all" "Z", Cond.fieldLink RX6 138 "ServiceRows2Model" "many" "I", Cond.methodLink RX6 218 yX6_looked]
def wsL_law_r20 : List Cond := [Cond.instanceMethod yX6_looked, Cond.selects RX6 yX6_looked yX6_looked, Cond.code yX6_looked cX6_looked 4 (some .int), Cond.fieldLink RX6 192 "ServiceRows2Model" "now" "J", Cond.fieldLink RX6 196 "ServiceRows2Model" "asked" "J", Cond.fieldLink RX6 128 "ServiceRows2Model" "answers" "I", Cond.methodLink RX6 199 yX6_served, Cond.instanceMethod yX6_served, Cond.selects RX6 yX6_served yX6_served, Cond.code yX6_served cX6_served 4 (some .int), Cond.fieldLink RX6 135 "ServiceRows2Model" "open" "Z", Cond.constantLong RX6 159 (200), Cond.fieldLink RX6 161 "ServiceRows2Model" "size" "I", Cond.fieldLink RX6 164 "ServiceRows2Model" "taken" "I", Cond.fieldLink RX6 167 "ServiceRows2Model" "sum" "I", Cond.fieldLink RX6 170 "ServiceRows2Model" "hasBlock" "Z", Cond.methodLink RX6 141 yX6_ends, Cond.instanceMethod yX6_ends, Cond.selects RX6 yX6_ends yX6_ends, Cond.code yX6_ends cX6_ends 3 none, Cond.methodLink RX6 131 yX6_say, Cond.instanceMethod yX6_say, Cond.selects RX6 yX6_say yX6_say, Cond.code yX6_say cX6_say 2 none]
def wsL_law_r21 : List Cond := [Cond.methodLink RX6 144 yX6_read, Cond.instanceMethod yX6_read, Cond.selects RX6 yX6_read yX6_read, Cond.code yX6_read cX6_read 7 (some .int), Cond.methodLink RX6 156 yX6_told, Cond.instanceMethod yX6_told, Cond.selects RX6 yX6_told yX6_told, Cond.code yX6_told cX6_told 2 (some .int), Cond.methodLink RX6 180 yX6_isHere, Cond.instanceMethod yX6_isHere, Cond.selects RX6 yX6_isHere yX6_isHere, Cond.code yX6_isHere cX6_isHere 2 (some .boolean), Cond.methodLink RX6 120 yX6_octet, Cond.instanceMethod yX6_octet, Cond.selects RX6 yX6_octet yX6_octet, Cond.code yX6_octet cX6_octet 7 (some .int), Cond.methodLink RX6 147 yX6_write, Cond.instanceMethod yX6_write, Cond.selects RX6 yX6_write yX6_write, Cond.code yX6_write cX6_write 3 (some .int), Cond.methodLink RX6 184 yX6_number, Cond.instanceMethod yX6_number, Cond.selects RX6 yX6_number yX6_number, Cond.code yX6_number cX6_number 6 (some .long)]
def wsL_law_r22 : List Cond := [Cond.methodLink RX6 176 yX6_threeSaid, Cond.instanceMethod yX6_threeSaid, Cond.selects RX6 yX6_threeSaid yX6_threeSaid, Cond.code yX6_threeSaid cX6_threeSaid 4 none, Cond.methodLink RX6 150 yX6_controls, Cond.instanceMethod yX6_controls, Cond.selects RX6 yX6_controls yX6_controls, Cond.code yX6_controls cX6_controls 6 (some .int), Cond.methodLink RX6 124 yX6_valueOf, Cond.instanceMethod yX6_valueOf, Cond.selects RX6 yX6_valueOf yX6_valueOf, Cond.code yX6_valueOf cX6_valueOf 5 (some .long), Cond.methodLink RX6 153 yX6_runs, Cond.instanceMethod yX6_runs, Cond.selects RX6 yX6_runs yX6_runs, Cond.code yX6_runs cX6_runs 5 (some .int), Cond.methodLink RX6 173 yX6_takes, Cond.instanceMethod yX6_takes, Cond.selects RX6 yX6_takes yX6_takes, Cond.code yX6_takes cX6_takes 4 (some .int), Cond.fieldLink RX6 188 "ServiceRows2Model" "block" "I", Cond.constant RX6 191 (65536), Cond.methodLink RL 60 yL_answer, Cond.static yL_answer]
def wsL_law_r23 : List Cond := [Cond.initialized RL, Cond.codeWith yL_answer cL_answer 4 (some .int) [(0, 9, 12, 13)], Cond.methodLink RL 7 yX5_answer, Cond.instanceMethod yX5_answer, Cond.selects RX5 yX5_answer yX5_answer, Cond.code yX5_answer cX5_answer 2 (some .byte), Cond.classLink RX5 137 RJx00060, Cond.instantiable RJx00060 6, Cond.initialized RJx00060, Cond.methodLink RX5 133 yX0_has, Cond.instanceMethod yX0_has, Cond.selects RX0 yX0_has yX0_has, Cond.code yX0_has cX0_has 2 (some .boolean), Cond.methodLink RX5 144 yX0_octetAt, Cond.instanceMethod yX0_octetAt, Cond.selects RX0 yX0_octetAt yX0_octetAt, Cond.code yX0_octetAt cX0_octetAt 2 (some .byte), Cond.methodLink RX0 23 yX0_has, Cond.methodLink RL 65 yX6_answer, Cond.instanceMethod yX6_answer, Cond.selects RX6 yX6_answer yX6_answer, Cond.code yX6_answer cX6_answer 2 (some .byte), Cond.methodLink RL 66 yX6_thrown, Cond.instanceMethod yX6_thrown]
def wsL_law_r24 : List Cond := [Cond.selects RX6 yX6_thrown yX6_thrown, Cond.code yX6_thrown cX6_thrown 1 (some .int), Cond.methodLink RL 70 yX5_code, Cond.instanceMethod yX5_code, Cond.selects RX5 yX5_code yX5_code, Cond.code yX5_code cX5_code 1 (some .int), Cond.methodLink RL 73 yX6_code, Cond.instanceMethod yX6_code, Cond.selects RX6 yX6_code yX6_code, Cond.code yX6_code cX6_code 1 (some .int), Cond.methodLink RL 74 yX5_transfer, Cond.instanceMethod yX5_transfer, Cond.selects RX5 yX5_transfer yX5_transfer, Cond.code yX5_transfer cX5_transfer 4 (some .int), Cond.methodLink RL 78 yX6_transfer, Cond.instanceMethod yX6_transfer, Cond.selects RX6 yX6_transfer yX6_transfer, Cond.code yX6_transfer cX6_transfer 5 (some .int), Cond.methodLink RL 79 yX5_tick, Cond.instanceMethod yX5_tick, Cond.selects RX5 yX5_tick yX5_tick, Cond.code yX5_tick cX5_tick 5 (some .int), Cond.constantLong RX5 151 (1152921504606846976), Cond.constantLong RX5 156 (5000)]
def wsL_law_r25 : List Cond := [Cond.methodLink RX5 153 yX3_step, Cond.instanceMethod yX3_step, Cond.selects RX3 yX3_step yX3_step, Cond.code yX3_step cX3_step 1 none, Cond.methodLink RL 83 yX6_tick, Cond.instanceMethod yX6_tick, Cond.selects RX6 yX6_tick yX6_tick, Cond.code yX6_tick cX6_tick 5 (some .int), Cond.constantLong RX6 221 (1152921504606846976), Cond.constantLong RX6 223 (5000), Cond.methodLink RL 84 yX5_value, Cond.instanceMethod yX5_value, Cond.selects RX5 yX5_value yX5_value, Cond.code yX5_value cX5_value 3 (some .long), Cond.methodLink RL 88 yX6_value, Cond.instanceMethod yX6_value, Cond.selects RX6 yX6_value yX6_value, Cond.code yX6_value cX6_value 3 (some .long)]
def wsL_law : List Cond := (wsL_law_r1 ++ (wsL_law_r2 ++ (wsL_law_r3 ++ (wsL_law_r4 ++ (wsL_law_r5 ++ (wsL_law_r6 ++ (wsL_law_r7 ++ (wsL_law_r8 ++ (wsL_law_r9 ++ (wsL_law_r10 ++ (wsL_law_r11 ++ (wsL_law_r12 ++ (wsL_law_r13 ++ (wsL_law_r14 ++ (wsL_law_r15 ++ (wsL_law_r16 ++ (wsL_law_r17 ++ (wsL_law_r18 ++ (wsL_law_r19 ++ (wsL_law_r20 ++ (wsL_law_r21 ++ (wsL_law_r22 ++ (wsL_law_r23 ++ (wsL_law_r24 ++ wsL_law_r25)))))))))))))))))))))))) ++ wsX50 ++ wsX60 ++ wsX20 ++ wsX00 ++ wsX40 ++ wsX10 ++ wsX30 ++ wsJx000600 ++ ([] : List Cond)
theorem inlX0 : ∀ w ∈ wsX00, w ∈ wsL_law := fun _ h => List.mem_append_left _ (List.mem_append_left _ (List.mem_append_left _ (List.mem_append_left _ (List.mem_append_left _ (List.mem_append_right _ h)))))
theorem inlX1 : ∀ w ∈ wsX10, w ∈ wsL_law := fun _ h => List.mem_append_left _ (List.mem_append_left _ (List.mem_append_left _ (List.mem_append_right _ h)))
theorem inlX2 : ∀ w ∈ wsX20, w ∈ wsL_law := fun _ h => List.mem_append_left _ (List.mem_append_left _ (List.mem_append_left _ (List.mem_append_left _ (List.mem_append_left _ (List.mem_append_left _ (List.mem_append_right _ h))))))
theorem inlX3 : ∀ w ∈ wsX30, w ∈ wsL_law := fun _ h => List.mem_append_left _ (List.mem_append_left _ (List.mem_append_right _ h))
theorem inlX4 : ∀ w ∈ wsX40, w ∈ wsL_law := fun _ h => List.mem_append_left _ (List.mem_append_left _ (List.mem_append_left _ (List.mem_append_left _ (List.mem_append_right _ h))))
theorem inlX5 : ∀ w ∈ wsX50, w ∈ wsL_law := fun _ h => List.mem_append_left _ (List.mem_append_left _ (List.mem_append_left _ (List.mem_append_left _ (List.mem_append_left _ (List.mem_append_left _ (List.mem_append_left _ (List.mem_append_left _ (List.mem_append_right _ h))))))))
theorem inlX6 : ∀ w ∈ wsX60, w ∈ wsL_law := fun _ h => List.mem_append_left _ (List.mem_append_left _ (List.mem_append_left _ (List.mem_append_left _ (List.mem_append_left _ (List.mem_append_left _ (List.mem_append_left _ (List.mem_append_right _ h)))))))
theorem inlJx00060 : ∀ w ∈ wsJx000600, w ∈ wsL_law := fun _ h => List.mem_append_left _ (List.mem_append_right _ h)
abbrev vwCl : List vw_C := [(RJx00060, TJx00060, 6), (RX0, TX0, 2), (RX1, TX1, 11), (RX2, TX2, 5), (RX3, TX3, 5), (RX4, TX4, 4), (RX5, TX5, 16), (RX6, TX6, 43)]
end
section
set_option maxRecDepth 20000 in
theorem wT_1 : ∀ w ∈ wsL_law_r1, w ∈ lw_tbl := fun w h => (goodIn_r wsL_law_r1 [58, 59, 45, 620, 621, 49, 756, 894, 60, 61, 62, 63, 64, 65, 66, 130, 131, 68, 132, 133, 134, 135, 136, 137] (by decide +kernel) (by decide +kernel) w h).1
set_option maxRecDepth 20000 in
theorem wT_2 : ∀ w ∈ wsL_law_r2, w ∈ lw_tbl := fun w h => (goodIn_r wsL_law_r2 [138, 139, 140, 141, 70, 71, 46, 142, 143, 94, 95, 47, 144, 108, 109, 48, 145, 73, 74, 75, 93, 76, 77, 78] (by decide +kernel) (by decide +kernel) w h).1
set_option maxRecDepth 20000 in
theorem wT_3 : ∀ w ∈ wsL_law_r3, w ∈ lw_tbl := fun w h => (goodIn_r wsL_law_r3 [79, 80, 97, 98, 99, 100, 101, 111, 112, 113, 114, 116, 118, 120, 622, 623, 624, 625, 627, 631, 632, 242, 635, 636] (by decide +kernel) (by decide +kernel) w h).1
set_option maxRecDepth 20000 in
theorem wT_4 : ∀ w ∈ wsL_law_r4, w ∈ lw_tbl := fun w h => (goodIn_r wsL_law_r4 [637, 638, 639, 757, 640, 641, 642, 643, 644, 645, 647, 648, 649, 650, 651, 662, 665, 667, 668, 179, 180, 181, 182, 183] (by decide +kernel) (by decide +kernel) w h).1
set_option maxRecDepth 20000 in
theorem wT_5 : ∀ w ∈ wsL_law_r5, w ∈ lw_tbl := fun w h => (goodIn_r wsL_law_r5 [195, 50, 184, 185, 186, 187, 189, 0, 190, 202, 191, 193, 1, 194, 196, 197, 198, 199, 211, 213, 215, 216, 201, 209] (by decide +kernel) (by decide +kernel) w h).1
set_option maxRecDepth 20000 in
theorem wT_6 : ∀ w ∈ wsL_law_r6, w ∈ lw_tbl := fun w h => (goodIn_r wsL_law_r6 [203, 205, 207, 200, 217, 218, 243, 245, 2, 246, 762, 763, 764, 765, 626, 766, 770, 771, 634, 767, 768, 769, 772, 774] (by decide +kernel) (by decide +kernel) w h).1
set_option maxRecDepth 20000 in
theorem wT_7 : ∀ w ∈ wsL_law_r7, w ∈ lw_tbl := fun w h => (goodIn_r wsL_law_r7 [27, 775, 776, 778, 28, 779, 247, 248, 249, 250, 210, 208, 251, 252, 253, 254, 780, 781, 782, 783, 255, 256, 257, 258] (by decide +kernel) (by decide +kernel) w h).1
set_option maxRecDepth 20000 in
theorem wT_8 : ∀ w ∈ wsL_law_r8, w ∈ lw_tbl := fun w h => (goodIn_r wsL_law_r8 [263, 51, 259, 261, 3, 262, 269, 264, 265, 266, 267, 271, 273, 275, 268, 270, 784, 785, 786, 787, 788, 646, 288, 289] (by decide +kernel) (by decide +kernel) w h).1
set_option maxRecDepth 20000 in
theorem wT_9 : ∀ w ∈ wsL_law_r9, w ∈ lw_tbl := fun w h => (goodIn_r wsL_law_r9 [290, 291, 789, 790, 791, 792, 292, 293, 294, 295, 793, 794, 795, 796, 628, 296, 297, 298, 299, 214, 212, 797, 798, 799] (by decide +kernel) (by decide +kernel) w h).1
set_option maxRecDepth 20000 in
theorem wT_10 : ∀ w ∈ wsL_law_r10, w ∈ lw_tbl := fun w h => (goodIn_r wsL_law_r10 [800, 300, 301, 302, 303, 801, 802, 803, 804, 805, 633, 304, 305, 306, 307, 102, 308, 309, 310, 311, 312, 313, 52, 314] (by decide +kernel) (by decide +kernel) w h).1
set_option maxRecDepth 20000 in
theorem wT_11 : ∀ w ∈ wsL_law_r11, w ∈ lw_tbl := fun w h => (goodIn_r wsL_law_r11 [315, 316, 317, 318, 319, 321, 4, 322, 81, 323, 324, 325, 326, 327, 329, 5, 330, 331, 332, 333, 334, 335, 336, 337] (by decide +kernel) (by decide +kernel) w h).1
set_option maxRecDepth 20000 in
theorem wT_12 : ∀ w ∈ wsL_law_r12, w ∈ lw_tbl := fun w h => (goodIn_r wsL_law_r12 [338, 339, 341, 6, 342, 343, 344, 345, 346, 347, 348, 349, 350, 351, 352, 353, 354, 355, 357, 7, 358, 359, 360, 361] (by decide +kernel) (by decide +kernel) w h).1
set_option maxRecDepth 20000 in
theorem wT_13 : ∀ w ∈ wsL_law_r13, w ∈ lw_tbl := fun w h => (goodIn_r wsL_law_r13 [362, 363, 364, 365, 366, 367, 369, 8, 370, 371, 372, 373, 374, 375, 377, 9, 378, 379, 381, 10, 382, 383, 384, 385] (by decide +kernel) (by decide +kernel) w h).1
set_option maxRecDepth 20000 in
theorem wT_14 : ∀ w ∈ wsL_law_r14, w ∈ lw_tbl := fun w h => (goodIn_r wsL_law_r14 [386, 387, 389, 11, 390, 391, 393, 12, 394, 206, 395, 396, 397, 398, 399, 401, 13, 402, 204, 403, 405, 14, 406, 407] (by decide +kernel) (by decide +kernel) w h).1
set_option maxRecDepth 20000 in
theorem wT_15 : ∀ w ∈ wsL_law_r15, w ∈ lw_tbl := fun w h => (goodIn_r wsL_law_r15 [408, 409, 410, 411, 412, 413, 414, 415, 416, 418, 15, 419, 420, 422, 16, 423, 424, 425, 426, 427, 428, 430, 17, 431] (by decide +kernel) (by decide +kernel) w h).1
set_option maxRecDepth 20000 in
theorem wT_16 : ∀ w ∈ wsL_law_r16, w ∈ lw_tbl := fun w h => (goodIn_r wsL_law_r16 [432, 433, 434, 435, 436, 437, 438, 439, 440, 441, 442, 443, 444, 445, 447, 18, 448, 274, 449, 451, 19, 452, 272, 453] (by decide +kernel) (by decide +kernel) w h).1
set_option maxRecDepth 20000 in
theorem wT_17 : ∀ w ∈ wsL_law_r17, w ∈ lw_tbl := fun w h => (goodIn_r wsL_law_r17 [455, 20, 456, 457, 458, 459, 460, 461, 463, 21, 464, 276, 465, 467, 22, 468, 115, 469, 470, 471, 472, 473, 475, 23] (by decide +kernel) (by decide +kernel) w h).1
set_option maxRecDepth 20000 in
theorem wT_18 : ∀ w ∈ wsL_law_r18, w ∈ lw_tbl := fun w h => (goodIn_r wsL_law_r18 [476, 117, 477, 478, 479, 480, 481, 482, 483, 484, 485, 486, 487, 488, 490, 489, 491, 493, 24, 494, 119, 495, 497, 25] (by decide +kernel) (by decide +kernel) w h).1
set_option maxRecDepth 20000 in
theorem wT_19 : ∀ w ∈ wsL_law_r19, w ∈ lw_tbl := fun w h => (goodIn_r wsL_law_r19 [498, 499, 500, 501, 502, 503, 504, 505, 506, 507, 508, 509, 510, 818, 819, 820, 821, 659, 658, 660, 661, 663, 664, 822] (by decide +kernel) (by decide +kernel) w h).1
set_option maxRecDepth 20000 in
theorem wT_20 : ∀ w ∈ wsL_law_r20, w ∈ lw_tbl := fun w h => (goodIn_r wsL_law_r20 [824, 31, 825, 629, 630, 666, 826, 828, 32, 829, 652, 870, 653, 654, 655, 657, 830, 832, 33, 833, 834, 836, 34, 837] (by decide +kernel) (by decide +kernel) w h).1
set_option maxRecDepth 20000 in
theorem wT_21 : ∀ w ∈ wsL_law_r21, w ∈ lw_tbl := fun w h => (goodIn_r wsL_law_r21 [838, 840, 35, 841, 842, 844, 36, 845, 846, 848, 37, 849, 814, 816, 30, 817, 850, 852, 38, 853, 854, 856, 39, 857] (by decide +kernel) (by decide +kernel) w h).1
set_option maxRecDepth 20000 in
theorem wT_22 : ∀ w ∈ wsL_law_r22, w ∈ lw_tbl := fun w h => (goodIn_r wsL_law_r22 [858, 860, 40, 861, 862, 864, 41, 865, 810, 812, 29, 813, 866, 868, 42, 869, 871, 873, 43, 874, 656, 875, 533, 534] (by decide +kernel) (by decide +kernel) w h).1
set_option maxRecDepth 20000 in
theorem wT_23 : ∀ w ∈ wsL_law_r23, w ∈ lw_tbl := fun w h => (goodIn_r wsL_law_r23 [44, 535, 537, 538, 539, 540, 545, 546, 57, 541, 542, 543, 544, 615, 616, 617, 618, 619, 876, 877, 878, 879, 758, 759] (by decide +kernel) (by decide +kernel) w h).1
set_option maxRecDepth 20000 in
theorem wT_24 : ∀ w ∈ wsL_law_r24, w ∈ lw_tbl := fun w h => (goodIn_r wsL_law_r24 [760, 761, 511, 512, 513, 514, 880, 881, 882, 883, 515, 516, 517, 518, 884, 885, 886, 887, 519, 520, 521, 522, 523, 528] (by decide +kernel) (by decide +kernel) w h).1
set_option maxRecDepth 20000 in
theorem wT_25 : ∀ w ∈ wsL_law_r25, w ∈ lw_tbl := fun w h => (goodIn_r wsL_law_r25 [524, 525, 526, 527, 888, 889, 890, 891, 892, 893, 529, 530, 531, 532, 806, 807, 808, 809] (by decide +kernel) (by decide +kernel) w h).1
set_option maxRecDepth 20000 in
theorem wT_X5 : ∀ w ∈ wsX50, w ∈ lw_tbl := fun w h => (goodIn_r wsX50 [146, 148, 150, 152, 154, 156, 158, 160, 162, 164, 166, 168, 170, 172, 174, 176] (by decide +kernel) (by decide +kernel) w h).1
set_option maxRecDepth 20000 in
theorem wT_X6 : ∀ w ∈ wsX60, w ∈ lw_tbl := fun w h => (goodIn_r wsX60 [669, 671, 673, 675, 677, 679, 681, 683, 685, 687, 689, 691, 693, 695, 697, 699, 701, 703, 705, 707, 709, 711, 713, 715, 717, 719, 721, 723, 725, 727, 729, 731, 733, 735, 737, 739, 741, 743, 745, 747, 749, 751, 753] (by decide +kernel) (by decide +kernel) w h).1
set_option maxRecDepth 20000 in
theorem wT_X2 : ∀ w ∈ wsX20, w ∈ lw_tbl := fun w h => (goodIn_r wsX20 [82, 84, 86, 88, 90] (by decide +kernel) (by decide +kernel) w h).1
set_option maxRecDepth 20000 in
theorem wT_X0 : ∀ w ∈ wsX00, w ∈ lw_tbl := fun w h => (goodIn_r wsX00 [103, 105] (by decide +kernel) (by decide +kernel) w h).1
set_option maxRecDepth 20000 in
theorem wT_X4 : ∀ w ∈ wsX40, w ∈ lw_tbl := fun w h => (goodIn_r wsX40 [121, 123, 125, 127] (by decide +kernel) (by decide +kernel) w h).1
set_option maxRecDepth 20000 in
theorem wT_X1 : ∀ w ∈ wsX10, w ∈ lw_tbl := fun w h => (goodIn_r wsX10 [219, 221, 223, 225, 227, 229, 231, 233, 235, 237, 239] (by decide +kernel) (by decide +kernel) w h).1
set_option maxRecDepth 20000 in
theorem wT_X3 : ∀ w ∈ wsX30, w ∈ lw_tbl := fun w h => (goodIn_r wsX30 [277, 279, 281, 283, 285] (by decide +kernel) (by decide +kernel) w h).1
set_option maxRecDepth 20000 in
theorem wT_Jx00060 : ∀ w ∈ wsJx000600, w ∈ lw_tbl := fun w h => (goodIn_r wsJx000600 [558, 560, 562, 564, 566, 611] (by decide +kernel) (by decide +kernel) w h).1
theorem z_ap {big a b : List Cond} (ha : ∀ w ∈ a, w ∈ big) (hb : ∀ w ∈ b, w ∈ big) : ∀ w ∈ a ++ b, w ∈ big := fun w h => (List.mem_append.mp h).elim (ha w) (hb w)
theorem wsL_law_in : ∀ w ∈ wsL_law, w ∈ lw_tbl := (z_ap (z_ap (z_ap (z_ap (z_ap (z_ap (z_ap (z_ap (z_ap (z_ap wT_1 (z_ap wT_2 (z_ap wT_3 (z_ap wT_4 (z_ap wT_5 (z_ap wT_6 (z_ap wT_7 (z_ap wT_8 (z_ap wT_9 (z_ap wT_10 (z_ap wT_11 (z_ap wT_12 (z_ap wT_13 (z_ap wT_14 (z_ap wT_15 (z_ap wT_16 (z_ap wT_17 (z_ap wT_18 (z_ap wT_19 (z_ap wT_20 (z_ap wT_21 (z_ap wT_22 (z_ap wT_23 (z_ap wT_24 wT_25)))))))))))))))))))))))) wT_X5) wT_X6) wT_X2) wT_X0) wT_X4) wT_X1) wT_X3) wT_Jx00060) (fun _ h => absurd h List.not_mem_nil))
end
section
theorem dX0_init_0 : decode cX0_init 0 = .ok (.aload_n 0, 1) := by decide +kernel
theorem dX0_init_1 : decode cX0_init 1 = .ok (.invokespecial 3, 3) := by decide +kernel
theorem dX0_init_4 : decode cX0_init 4 = .ok (.aload_n 0, 1) := by decide +kernel
theorem dX0_init_5 : decode cX0_init 5 = .ok (.bipush 41, 2) := by decide +kernel
theorem dX0_init_7 : decode cX0_init 7 = .ok (.newarray .byte, 2) := by decide +kernel
theorem dX0_init_9 : decode cX0_init 9 = .ok (.putfield 9, 3) := by decide +kernel
theorem dX0_init_12 : decode cX0_init 12 = .ok (.aload_n 0, 1) := by decide +kernel
theorem dX0_init_13 : decode cX0_init 13 = .ok (.iconst 0, 1) := by decide +kernel
theorem dX0_init_14 : decode cX0_init 14 = .ok (.putfield 15, 3) := by decide +kernel
theorem dX0_init_17 : decode cX0_init 17 = .ok (.return_, 1) := by decide +kernel
theorem dX0_clear_0 : decode cX0_clear 0 = .ok (.aload_n 0, 1) := by decide +kernel
theorem dX0_clear_1 : decode cX0_clear 1 = .ok (.iconst 0, 1) := by decide +kernel
theorem dX0_clear_2 : decode cX0_clear 2 = .ok (.putfield 15, 3) := by decide +kernel
theorem dX0_clear_5 : decode cX0_clear 5 = .ok (.return_, 1) := by decide +kernel
theorem dX0_put_0 : decode cX0_put 0 = .ok (.aload_n 0, 1) := by decide +kernel
theorem dX0_put_1 : decode cX0_put 1 = .ok (.getfield 15, 3) := by decide +kernel
theorem dX0_put_4 : decode cX0_put 4 = .ok (.ifCond .lt 36, 3) := by decide +kernel
theorem dX0_put_7 : decode cX0_put 7 = .ok (.aload_n 0, 1) := by decide +kernel
theorem dX0_put_8 : decode cX0_put 8 = .ok (.getfield 15, 3) := by decide +kernel
theorem dX0_put_11 : decode cX0_put 11 = .ok (.aload_n 0, 1) := by decide +kernel
theorem dX0_put_12 : decode cX0_put 12 = .ok (.getfield 9, 3) := by decide +kernel
theorem dX0_put_15 : decode cX0_put 15 = .ok (.arraylength, 1) := by decide +kernel
theorem dX0_put_16 : decode cX0_put 16 = .ok (.if_icmp .ge 24, 3) := by decide +kernel
theorem dX0_put_19 : decode cX0_put 19 = .ok (.aload_n 0, 1) := by decide +kernel
theorem dX0_put_20 : decode cX0_put 20 = .ok (.getfield 9, 3) := by decide +kernel
theorem dX0_put_23 : decode cX0_put 23 = .ok (.aload_n 0, 1) := by decide +kernel
theorem dX0_put_24 : decode cX0_put 24 = .ok (.getfield 15, 3) := by decide +kernel
theorem dX0_put_27 : decode cX0_put 27 = .ok (.iload_n 1, 1) := by decide +kernel
theorem dX0_put_28 : decode cX0_put 28 = .ok (.i2b, 1) := by decide +kernel
theorem dX0_put_29 : decode cX0_put 29 = .ok (.bastore, 1) := by decide +kernel
theorem dX0_put_30 : decode cX0_put 30 = .ok (.aload_n 0, 1) := by decide +kernel
theorem dX0_put_31 : decode cX0_put 31 = .ok (.dup, 1) := by decide +kernel
theorem dX0_put_32 : decode cX0_put 32 = .ok (.getfield 15, 3) := by decide +kernel
theorem dX0_put_35 : decode cX0_put 35 = .ok (.iconst 1, 1) := by decide +kernel
theorem dX0_put_36 : decode cX0_put 36 = .ok (.iadd, 1) := by decide +kernel
theorem dX0_put_37 : decode cX0_put 37 = .ok (.putfield 15, 3) := by decide +kernel
theorem dX0_put_40 : decode cX0_put 40 = .ok (.return_, 1) := by decide +kernel
theorem dX0_putWord_0 : decode cX0_putWord 0 = .ok (.aload_n 0, 1) := by decide +kernel
theorem dX0_putWord_1 : decode cX0_putWord 1 = .ok (.iload_n 1, 1) := by decide +kernel
theorem dX0_putWord_2 : decode cX0_putWord 2 = .ok (.bipush 8, 2) := by decide +kernel
theorem dX0_putWord_4 : decode cX0_putWord 4 = .ok (.ishr, 1) := by decide +kernel
theorem dX0_putWord_5 : decode cX0_putWord 5 = .ok (.invokevirtual 19, 3) := by decide +kernel
theorem dX0_putWord_8 : decode cX0_putWord 8 = .ok (.aload_n 0, 1) := by decide +kernel
theorem dX0_putWord_9 : decode cX0_putWord 9 = .ok (.iload_n 1, 1) := by decide +kernel
theorem dX0_putWord_10 : decode cX0_putWord 10 = .ok (.invokevirtual 19, 3) := by decide +kernel
theorem dX0_putWord_13 : decode cX0_putWord 13 = .ok (.return_, 1) := by decide +kernel
theorem dX0_has_0 : decode cX0_has 0 = .ok (.iload_n 1, 1) := by decide +kernel
theorem dX0_has_1 : decode cX0_has 1 = .ok (.ifCond .lt 24, 3) := by decide +kernel
theorem dX0_has_4 : decode cX0_has 4 = .ok (.iload_n 1, 1) := by decide +kernel
theorem dX0_has_5 : decode cX0_has 5 = .ok (.aload_n 0, 1) := by decide +kernel
theorem dX0_has_6 : decode cX0_has 6 = .ok (.getfield 15, 3) := by decide +kernel
theorem dX0_has_9 : decode cX0_has 9 = .ok (.if_icmp .ge 16, 3) := by decide +kernel
theorem dX0_has_12 : decode cX0_has 12 = .ok (.iload_n 1, 1) := by decide +kernel
theorem dX0_has_13 : decode cX0_has 13 = .ok (.aload_n 0, 1) := by decide +kernel
theorem dX0_has_14 : decode cX0_has 14 = .ok (.getfield 9, 3) := by decide +kernel
theorem dX0_has_17 : decode cX0_has 17 = .ok (.arraylength, 1) := by decide +kernel
theorem dX0_has_18 : decode cX0_has 18 = .ok (.if_icmp .ge 7, 3) := by decide +kernel
theorem dX0_has_21 : decode cX0_has 21 = .ok (.iconst 1, 1) := by decide +kernel
theorem dX0_has_22 : decode cX0_has 22 = .ok (.goto 4, 3) := by decide +kernel
theorem dX0_has_25 : decode cX0_has 25 = .ok (.iconst 0, 1) := by decide +kernel
theorem dX0_has_26 : decode cX0_has 26 = .ok (.ireturn, 1) := by decide +kernel
theorem dX0_octetAt_0 : decode cX0_octetAt 0 = .ok (.aload_n 0, 1) := by decide +kernel
theorem dX0_octetAt_1 : decode cX0_octetAt 1 = .ok (.iload_n 1, 1) := by decide +kernel
theorem dX0_octetAt_2 : decode cX0_octetAt 2 = .ok (.invokevirtual 23, 3) := by decide +kernel
theorem dX0_octetAt_5 : decode cX0_octetAt 5 = .ok (.ifCond .eq 12, 3) := by decide +kernel
theorem dX0_octetAt_8 : decode cX0_octetAt 8 = .ok (.aload_n 0, 1) := by decide +kernel
theorem dX0_octetAt_9 : decode cX0_octetAt 9 = .ok (.getfield 9, 3) := by decide +kernel
theorem dX0_octetAt_12 : decode cX0_octetAt 12 = .ok (.iload_n 1, 1) := by decide +kernel
theorem dX0_octetAt_13 : decode cX0_octetAt 13 = .ok (.baload, 1) := by decide +kernel
theorem dX0_octetAt_14 : decode cX0_octetAt 14 = .ok (.goto 4, 3) := by decide +kernel
theorem dX0_octetAt_17 : decode cX0_octetAt 17 = .ok (.iconst 0, 1) := by decide +kernel
theorem dX0_octetAt_18 : decode cX0_octetAt 18 = .ok (.ireturn, 1) := by decide +kernel
theorem dX1_init_0 : decode cX1_init 0 = .ok (.aload_n 0, 1) := by decide +kernel
theorem dX1_init_1 : decode cX1_init 1 = .ok (.invokespecial 3, 3) := by decide +kernel
theorem dX1_init_4 : decode cX1_init 4 = .ok (.aload_n 0, 1) := by decide +kernel
theorem dX1_init_5 : decode cX1_init 5 = .ok (.iconst 1, 1) := by decide +kernel
theorem dX1_init_6 : decode cX1_init 6 = .ok (.putfield 9, 3) := by decide +kernel
theorem dX1_init_9 : decode cX1_init 9 = .ok (.aload_n 0, 1) := by decide +kernel
theorem dX1_init_10 : decode cX1_init 10 = .ok (.lconst 0, 1) := by decide +kernel
theorem dX1_init_11 : decode cX1_init 11 = .ok (.putfield 15, 3) := by decide +kernel
theorem dX1_init_14 : decode cX1_init 14 = .ok (.aload_n 0, 1) := by decide +kernel
theorem dX1_init_15 : decode cX1_init 15 = .ok (.iconst 0, 1) := by decide +kernel
theorem dX1_init_16 : decode cX1_init 16 = .ok (.putfield 19, 3) := by decide +kernel
theorem dX1_init_19 : decode cX1_init 19 = .ok (.aload_n 0, 1) := by decide +kernel
theorem dX1_init_20 : decode cX1_init 20 = .ok (.lconst 0, 1) := by decide +kernel
theorem dX1_init_21 : decode cX1_init 21 = .ok (.putfield 22, 3) := by decide +kernel
theorem dX1_init_24 : decode cX1_init 24 = .ok (.aload_n 0, 1) := by decide +kernel
theorem dX1_init_25 : decode cX1_init 25 = .ok (.iload_n 1, 1) := by decide +kernel
theorem dX1_init_26 : decode cX1_init 26 = .ok (.putfield 25, 3) := by decide +kernel
theorem dX1_init_29 : decode cX1_init 29 = .ok (.aload_n 0, 1) := by decide +kernel
theorem dX1_init_30 : decode cX1_init 30 = .ok (.iload_n 2, 1) := by decide +kernel
theorem dX1_init_31 : decode cX1_init 31 = .ok (.putfield 29, 3) := by decide +kernel
theorem dX1_init_34 : decode cX1_init 34 = .ok (.aload_n 0, 1) := by decide +kernel
theorem dX1_init_35 : decode cX1_init 35 = .ok (.iload_n 3, 1) := by decide +kernel
theorem dX1_init_36 : decode cX1_init 36 = .ok (.putfield 32, 3) := by decide +kernel
theorem dX1_init_39 : decode cX1_init 39 = .ok (.aload_n 0, 1) := by decide +kernel
theorem dX1_init_40 : decode cX1_init 40 = .ok (.iload 4, 2) := by decide +kernel
theorem dX1_init_42 : decode cX1_init 42 = .ok (.putfield 35, 3) := by decide +kernel
theorem dX1_init_45 : decode cX1_init 45 = .ok (.aload_n 0, 1) := by decide +kernel
theorem dX1_init_46 : decode cX1_init 46 = .ok (.iload 5, 2) := by decide +kernel
theorem dX1_init_48 : decode cX1_init 48 = .ok (.putfield 38, 3) := by decide +kernel
theorem dX1_init_51 : decode cX1_init 51 = .ok (.aload_n 0, 1) := by decide +kernel
theorem dX1_init_52 : decode cX1_init 52 = .ok (.iload 5, 2) := by decide +kernel
theorem dX1_init_54 : decode cX1_init 54 = .ok (.ifCond .eq 8, 3) := by decide +kernel
theorem dX1_init_57 : decode cX1_init 57 = .ok (.bipush 8, 2) := by decide +kernel
theorem dX1_init_59 : decode cX1_init 59 = .ok (.goto 4, 3) := by decide +kernel
theorem dX1_init_62 : decode cX1_init 62 = .ok (.iconst 0, 1) := by decide +kernel
theorem dX1_init_63 : decode cX1_init 63 = .ok (.anewarray 10, 3) := by decide +kernel
theorem dX1_init_66 : decode cX1_init 66 = .ok (.putfield 41, 3) := by decide +kernel
theorem dX1_init_69 : decode cX1_init 69 = .ok (.aload_n 0, 1) := by decide +kernel
theorem dX1_init_70 : decode cX1_init 70 = .ok (.iload 5, 2) := by decide +kernel
theorem dX1_init_72 : decode cX1_init 72 = .ok (.ifCond .eq 8, 3) := by decide +kernel
theorem dX1_init_75 : decode cX1_init 75 = .ok (.bipush 8, 2) := by decide +kernel
theorem dX1_init_77 : decode cX1_init 77 = .ok (.goto 4, 3) := by decide +kernel
theorem dX1_init_80 : decode cX1_init 80 = .ok (.iconst 0, 1) := by decide +kernel
theorem dX1_init_81 : decode cX1_init 81 = .ok (.newarray .int, 2) := by decide +kernel
theorem dX1_init_83 : decode cX1_init 83 = .ok (.putfield 45, 3) := by decide +kernel
theorem dX1_init_86 : decode cX1_init 86 = .ok (.return_, 1) := by decide +kernel
theorem dX1_append_0 : decode cX1_append 0 = .ok (.iconst 0, 1) := by decide +kernel
theorem dX1_append_1 : decode cX1_append 1 = .ok (.istore_n 3, 1) := by decide +kernel
theorem dX1_append_2 : decode cX1_append 2 = .ok (.iload_n 3, 1) := by decide +kernel
theorem dX1_append_3 : decode cX1_append 3 = .ok (.iload_n 2, 1) := by decide +kernel
theorem dX1_append_4 : decode cX1_append 4 = .ok (.if_icmp .ge 70, 3) := by decide +kernel
theorem dX1_append_7 : decode cX1_append 7 = .ok (.aload_n 0, 1) := by decide +kernel
theorem dX1_append_8 : decode cX1_append 8 = .ok (.getfield 29, 3) := by decide +kernel
theorem dX1_append_11 : decode cX1_append 11 = .ok (.ifCond .lt 57, 3) := by decide +kernel
theorem dX1_append_14 : decode cX1_append 14 = .ok (.aload_n 0, 1) := by decide +kernel
theorem dX1_append_15 : decode cX1_append 15 = .ok (.getfield 29, 3) := by decide +kernel
theorem dX1_append_18 : decode cX1_append 18 = .ok (.aload_n 0, 1) := by decide +kernel
theorem dX1_append_19 : decode cX1_append 19 = .ok (.getfield 41, 3) := by decide +kernel
theorem dX1_append_22 : decode cX1_append 22 = .ok (.arraylength, 1) := by decide +kernel
theorem dX1_append_23 : decode cX1_append 23 = .ok (.if_icmp .ge 45, 3) := by decide +kernel
theorem dX1_append_26 : decode cX1_append 26 = .ok (.aload_n 0, 1) := by decide +kernel
theorem dX1_append_27 : decode cX1_append 27 = .ok (.getfield 29, 3) := by decide +kernel
theorem dX1_append_30 : decode cX1_append 30 = .ok (.aload_n 0, 1) := by decide +kernel
theorem dX1_append_31 : decode cX1_append 31 = .ok (.getfield 45, 3) := by decide +kernel
theorem dX1_append_34 : decode cX1_append 34 = .ok (.arraylength, 1) := by decide +kernel
theorem dX1_append_35 : decode cX1_append 35 = .ok (.if_icmp .ge 33, 3) := by decide +kernel
theorem dX1_append_38 : decode cX1_append 38 = .ok (.aload_n 0, 1) := by decide +kernel
theorem dX1_append_39 : decode cX1_append 39 = .ok (.getfield 41, 3) := by decide +kernel
theorem dX1_append_42 : decode cX1_append 42 = .ok (.aload_n 0, 1) := by decide +kernel
theorem dX1_append_43 : decode cX1_append 43 = .ok (.getfield 29, 3) := by decide +kernel
theorem dX1_append_46 : decode cX1_append 46 = .ok (.aload_n 1, 1) := by decide +kernel
theorem dX1_append_47 : decode cX1_append 47 = .ok (.aastore, 1) := by decide +kernel
theorem dX1_append_48 : decode cX1_append 48 = .ok (.aload_n 0, 1) := by decide +kernel
theorem dX1_append_49 : decode cX1_append 49 = .ok (.getfield 45, 3) := by decide +kernel
theorem dX1_append_52 : decode cX1_append 52 = .ok (.aload_n 0, 1) := by decide +kernel
theorem dX1_append_53 : decode cX1_append 53 = .ok (.getfield 29, 3) := by decide +kernel
theorem dX1_append_56 : decode cX1_append 56 = .ok (.iload_n 3, 1) := by decide +kernel
theorem dX1_append_57 : decode cX1_append 57 = .ok (.iastore, 1) := by decide +kernel
theorem dX1_append_58 : decode cX1_append 58 = .ok (.aload_n 0, 1) := by decide +kernel
theorem dX1_append_59 : decode cX1_append 59 = .ok (.dup, 1) := by decide +kernel
theorem dX1_append_60 : decode cX1_append 60 = .ok (.getfield 29, 3) := by decide +kernel
theorem dX1_append_63 : decode cX1_append 63 = .ok (.iconst 1, 1) := by decide +kernel
theorem dX1_append_64 : decode cX1_append 64 = .ok (.iadd, 1) := by decide +kernel
theorem dX1_append_65 : decode cX1_append 65 = .ok (.putfield 29, 3) := by decide +kernel
theorem dX1_append_68 : decode cX1_append 68 = .ok (.iinc 3 1, 3) := by decide +kernel
theorem dX1_append_71 : decode cX1_append 71 = .ok (.goto (-69), 3) := by decide +kernel
theorem dX1_append_74 : decode cX1_append 74 = .ok (.return_, 1) := by decide +kernel
theorem dX1_hold_0 : decode cX1_hold 0 = .ok (.aload_n 0, 1) := by decide +kernel
theorem dX1_hold_1 : decode cX1_hold 1 = .ok (.iconst 1, 1) := by decide +kernel
theorem dX1_hold_2 : decode cX1_hold 2 = .ok (.putfield 19, 3) := by decide +kernel
theorem dX1_hold_5 : decode cX1_hold 5 = .ok (.aload_n 0, 1) := by decide +kernel
theorem dX1_hold_6 : decode cX1_hold 6 = .ok (.lload_n 1, 1) := by decide +kernel
theorem dX1_hold_7 : decode cX1_hold 7 = .ok (.putfield 22, 3) := by decide +kernel
theorem dX1_hold_10 : decode cX1_hold 10 = .ok (.return_, 1) := by decide +kernel
theorem dX1_release_0 : decode cX1_release 0 = .ok (.aload_n 0, 1) := by decide +kernel
theorem dX1_release_1 : decode cX1_release 1 = .ok (.iconst 0, 1) := by decide +kernel
theorem dX1_release_2 : decode cX1_release 2 = .ok (.putfield 19, 3) := by decide +kernel
theorem dX1_release_5 : decode cX1_release 5 = .ok (.return_, 1) := by decide +kernel
theorem dX1_octetAt_0 : decode cX1_octetAt 0 = .ok (.aload_n 0, 1) := by decide +kernel
theorem dX1_octetAt_1 : decode cX1_octetAt 1 = .ok (.getfield 38, 3) := by decide +kernel
theorem dX1_octetAt_4 : decode cX1_octetAt 4 = .ok (.ifCond .ne 9, 3) := by decide +kernel
theorem dX1_octetAt_7 : decode cX1_octetAt 7 = .ok (.aload_n 0, 1) := by decide +kernel
theorem dX1_octetAt_8 : decode cX1_octetAt 8 = .ok (.iload_n 1, 1) := by decide +kernel
theorem dX1_octetAt_9 : decode cX1_octetAt 9 = .ok (.invokevirtual 49, 3) := by decide +kernel
theorem dX1_octetAt_12 : decode cX1_octetAt 12 = .ok (.ireturn, 1) := by decide +kernel
theorem dX1_octetAt_13 : decode cX1_octetAt 13 = .ok (.iload_n 1, 1) := by decide +kernel
theorem dX1_octetAt_14 : decode cX1_octetAt 14 = .ok (.ifCond .lt 21, 3) := by decide +kernel
theorem dX1_octetAt_17 : decode cX1_octetAt 17 = .ok (.iload_n 1, 1) := by decide +kernel
theorem dX1_octetAt_18 : decode cX1_octetAt 18 = .ok (.aload_n 0, 1) := by decide +kernel
theorem dX1_octetAt_19 : decode cX1_octetAt 19 = .ok (.getfield 41, 3) := by decide +kernel
theorem dX1_octetAt_22 : decode cX1_octetAt 22 = .ok (.arraylength, 1) := by decide +kernel
theorem dX1_octetAt_23 : decode cX1_octetAt 23 = .ok (.if_icmp .ge 12, 3) := by decide +kernel
theorem dX1_octetAt_26 : decode cX1_octetAt 26 = .ok (.iload_n 1, 1) := by decide +kernel
theorem dX1_octetAt_27 : decode cX1_octetAt 27 = .ok (.aload_n 0, 1) := by decide +kernel
theorem dX1_octetAt_28 : decode cX1_octetAt 28 = .ok (.getfield 45, 3) := by decide +kernel
theorem dX1_octetAt_31 : decode cX1_octetAt 31 = .ok (.arraylength, 1) := by decide +kernel
theorem dX1_octetAt_32 : decode cX1_octetAt 32 = .ok (.if_icmp .lt 5, 3) := by decide +kernel
theorem dX1_octetAt_35 : decode cX1_octetAt 35 = .ok (.iconst 0, 1) := by decide +kernel
theorem dX1_octetAt_36 : decode cX1_octetAt 36 = .ok (.ireturn, 1) := by decide +kernel
theorem dX1_octetAt_37 : decode cX1_octetAt 37 = .ok (.aload_n 0, 1) := by decide +kernel
theorem dX1_octetAt_38 : decode cX1_octetAt 38 = .ok (.getfield 41, 3) := by decide +kernel
theorem dX1_octetAt_41 : decode cX1_octetAt 41 = .ok (.iload_n 1, 1) := by decide +kernel
theorem dX1_octetAt_42 : decode cX1_octetAt 42 = .ok (.aaload, 1) := by decide +kernel
theorem dX1_octetAt_43 : decode cX1_octetAt 43 = .ok (.astore_n 2, 1) := by decide +kernel
theorem dX1_octetAt_44 : decode cX1_octetAt 44 = .ok (.aload_n 2, 1) := by decide +kernel
theorem dX1_octetAt_45 : decode cX1_octetAt 45 = .ok (.ifnonnull 7, 3) := by decide +kernel
theorem dX1_octetAt_48 : decode cX1_octetAt 48 = .ok (.iconst 0, 1) := by decide +kernel
theorem dX1_octetAt_49 : decode cX1_octetAt 49 = .ok (.goto 13, 3) := by decide +kernel
theorem dX1_octetAt_52 : decode cX1_octetAt 52 = .ok (.aload_n 2, 1) := by decide +kernel
theorem dX1_octetAt_53 : decode cX1_octetAt 53 = .ok (.aload_n 0, 1) := by decide +kernel
theorem dX1_octetAt_54 : decode cX1_octetAt 54 = .ok (.getfield 45, 3) := by decide +kernel
theorem dX1_octetAt_57 : decode cX1_octetAt 57 = .ok (.iload_n 1, 1) := by decide +kernel
theorem dX1_octetAt_58 : decode cX1_octetAt 58 = .ok (.iaload, 1) := by decide +kernel
theorem dX1_octetAt_59 : decode cX1_octetAt 59 = .ok (.invokevirtual 49, 3) := by decide +kernel
theorem dX1_octetAt_62 : decode cX1_octetAt 62 = .ok (.ireturn, 1) := by decide +kernel
theorem dX1_ordinaryOctetAt_0 : decode cX1_ordinaryOctetAt 0 = .ok (.aload_n 0, 1) := by decide +kernel
theorem dX1_ordinaryOctetAt_1 : decode cX1_ordinaryOctetAt 1 = .ok (.getfield 19, 3) := by decide +kernel
theorem dX1_ordinaryOctetAt_4 : decode cX1_ordinaryOctetAt 4 = .ok (.ifCond .eq 10, 3) := by decide +kernel
theorem dX1_ordinaryOctetAt_7 : decode cX1_ordinaryOctetAt 7 = .ok (.aload_n 0, 1) := by decide +kernel
theorem dX1_ordinaryOctetAt_8 : decode cX1_ordinaryOctetAt 8 = .ok (.getfield 22, 3) := by decide +kernel
theorem dX1_ordinaryOctetAt_11 : decode cX1_ordinaryOctetAt 11 = .ok (.goto 7, 3) := by decide +kernel
theorem dX1_ordinaryOctetAt_14 : decode cX1_ordinaryOctetAt 14 = .ok (.aload_n 0, 1) := by decide +kernel
theorem dX1_ordinaryOctetAt_15 : decode cX1_ordinaryOctetAt 15 = .ok (.getfield 15, 3) := by decide +kernel
theorem dX1_ordinaryOctetAt_18 : decode cX1_ordinaryOctetAt 18 = .ok (.lstore_n 2, 1) := by decide +kernel
theorem dX1_ordinaryOctetAt_19 : decode cX1_ordinaryOctetAt 19 = .ok (.lload_n 2, 1) := by decide +kernel
theorem dX1_ordinaryOctetAt_20 : decode cX1_ordinaryOctetAt 20 = .ok (.bipush 8, 2) := by decide +kernel
theorem dX1_ordinaryOctetAt_22 : decode cX1_ordinaryOctetAt 22 = .ok (.aload_n 0, 1) := by decide +kernel
theorem dX1_ordinaryOctetAt_23 : decode cX1_ordinaryOctetAt 23 = .ok (.getfield 29, 3) := by decide +kernel
theorem dX1_ordinaryOctetAt_26 : decode cX1_ordinaryOctetAt 26 = .ok (.iconst 1, 1) := by decide +kernel
theorem dX1_ordinaryOctetAt_27 : decode cX1_ordinaryOctetAt 27 = .ok (.isub, 1) := by decide +kernel
theorem dX1_ordinaryOctetAt_28 : decode cX1_ordinaryOctetAt 28 = .ok (.iload_n 1, 1) := by decide +kernel
theorem dX1_ordinaryOctetAt_29 : decode cX1_ordinaryOctetAt 29 = .ok (.isub, 1) := by decide +kernel
theorem dX1_ordinaryOctetAt_30 : decode cX1_ordinaryOctetAt 30 = .ok (.imul, 1) := by decide +kernel
theorem dX1_ordinaryOctetAt_31 : decode cX1_ordinaryOctetAt 31 = .ok (.lushr, 1) := by decide +kernel
theorem dX1_ordinaryOctetAt_32 : decode cX1_ordinaryOctetAt 32 = .ok (.l2i, 1) := by decide +kernel
theorem dX1_ordinaryOctetAt_33 : decode cX1_ordinaryOctetAt 33 = .ok (.sipush 255, 3) := by decide +kernel
theorem dX1_ordinaryOctetAt_36 : decode cX1_ordinaryOctetAt 36 = .ok (.iand, 1) := by decide +kernel
theorem dX1_ordinaryOctetAt_37 : decode cX1_ordinaryOctetAt 37 = .ok (.ireturn, 1) := by decide +kernel
theorem dX1_number_0 : decode cX1_number 0 = .ok (.lconst 0, 1) := by decide +kernel
theorem dX1_number_1 : decode cX1_number 1 = .ok (.lstore_n 1, 1) := by decide +kernel
theorem dX1_number_2 : decode cX1_number 2 = .ok (.iconst 0, 1) := by decide +kernel
theorem dX1_number_3 : decode cX1_number 3 = .ok (.istore_n 3, 1) := by decide +kernel
theorem dX1_number_4 : decode cX1_number 4 = .ok (.iload_n 3, 1) := by decide +kernel
theorem dX1_number_5 : decode cX1_number 5 = .ok (.aload_n 0, 1) := by decide +kernel
theorem dX1_number_6 : decode cX1_number 6 = .ok (.getfield 29, 3) := by decide +kernel
theorem dX1_number_9 : decode cX1_number 9 = .ok (.if_icmp .ge 21, 3) := by decide +kernel
theorem dX1_number_12 : decode cX1_number 12 = .ok (.lload_n 1, 1) := by decide +kernel
theorem dX1_number_13 : decode cX1_number 13 = .ok (.bipush 8, 2) := by decide +kernel
theorem dX1_number_15 : decode cX1_number 15 = .ok (.lshl, 1) := by decide +kernel
theorem dX1_number_16 : decode cX1_number 16 = .ok (.aload_n 0, 1) := by decide +kernel
theorem dX1_number_17 : decode cX1_number 17 = .ok (.iload_n 3, 1) := by decide +kernel
theorem dX1_number_18 : decode cX1_number 18 = .ok (.invokevirtual 53, 3) := by decide +kernel
theorem dX1_number_21 : decode cX1_number 21 = .ok (.i2l, 1) := by decide +kernel
theorem dX1_number_22 : decode cX1_number 22 = .ok (.lor, 1) := by decide +kernel
theorem dX1_number_23 : decode cX1_number 23 = .ok (.lstore_n 1, 1) := by decide +kernel
theorem dX1_number_24 : decode cX1_number 24 = .ok (.iinc 3 1, 3) := by decide +kernel
theorem dX1_number_27 : decode cX1_number 27 = .ok (.goto (-23), 3) := by decide +kernel
theorem dX1_number_30 : decode cX1_number 30 = .ok (.lload_n 1, 1) := by decide +kernel
theorem dX1_number_31 : decode cX1_number 31 = .ok (.lreturn, 1) := by decide +kernel
theorem dX2_init_0 : decode cX2_init 0 = .ok (.aload_n 0, 1) := by decide +kernel
theorem dX2_init_1 : decode cX2_init 1 = .ok (.invokespecial 3, 3) := by decide +kernel
theorem dX2_init_4 : decode cX2_init 4 = .ok (.aload_n 0, 1) := by decide +kernel
theorem dX2_init_5 : decode cX2_init 5 = .ok (.bipush 60, 2) := by decide +kernel
theorem dX2_init_7 : decode cX2_init 7 = .ok (.newarray .byte, 2) := by decide +kernel
theorem dX2_init_9 : decode cX2_init 9 = .ok (.putfield 9, 3) := by decide +kernel
theorem dX2_init_12 : decode cX2_init 12 = .ok (.aload_n 0, 1) := by decide +kernel
theorem dX2_init_13 : decode cX2_init 13 = .ok (.iconst 0, 1) := by decide +kernel
theorem dX2_init_14 : decode cX2_init 14 = .ok (.putfield 15, 3) := by decide +kernel
theorem dX2_init_17 : decode cX2_init 17 = .ok (.aload_n 0, 1) := by decide +kernel
theorem dX2_init_18 : decode cX2_init 18 = .ok (.iconst 0, 1) := by decide +kernel
theorem dX2_init_19 : decode cX2_init 19 = .ok (.putfield 19, 3) := by decide +kernel
theorem dX2_init_22 : decode cX2_init 22 = .ok (.aload_n 0, 1) := by decide +kernel
theorem dX2_init_23 : decode cX2_init 23 = .ok (.iconst 0, 1) := by decide +kernel
theorem dX2_init_24 : decode cX2_init 24 = .ok (.putfield 23, 3) := by decide +kernel
theorem dX2_init_27 : decode cX2_init 27 = .ok (.aload_n 0, 1) := by decide +kernel
theorem dX2_init_28 : decode cX2_init 28 = .ok (.iconst 0, 1) := by decide +kernel
theorem dX2_init_29 : decode cX2_init 29 = .ok (.putfield 26, 3) := by decide +kernel
theorem dX2_init_32 : decode cX2_init 32 = .ok (.return_, 1) := by decide +kernel
theorem dX2_take_0 : decode cX2_take 0 = .ok (.aload_n 0, 1) := by decide +kernel
theorem dX2_take_1 : decode cX2_take 1 = .ok (.getfield 15, 3) := by decide +kernel
theorem dX2_take_4 : decode cX2_take 4 = .ok (.ifCond .ne 42, 3) := by decide +kernel
theorem dX2_take_7 : decode cX2_take 7 = .ok (.aload_n 0, 1) := by decide +kernel
theorem dX2_take_8 : decode cX2_take 8 = .ok (.iconst 1, 1) := by decide +kernel
theorem dX2_take_9 : decode cX2_take 9 = .ok (.putfield 15, 3) := by decide +kernel
theorem dX2_take_12 : decode cX2_take 12 = .ok (.aload_n 0, 1) := by decide +kernel
theorem dX2_take_13 : decode cX2_take 13 = .ok (.iload_n 1, 1) := by decide +kernel
theorem dX2_take_14 : decode cX2_take 14 = .ok (.ifCond .ge 7, 3) := by decide +kernel
theorem dX2_take_17 : decode cX2_take 17 = .ok (.iconst 1, 1) := by decide +kernel
theorem dX2_take_18 : decode cX2_take 18 = .ok (.goto 4, 3) := by decide +kernel
theorem dX2_take_21 : decode cX2_take 21 = .ok (.iconst 0, 1) := by decide +kernel
theorem dX2_take_22 : decode cX2_take 22 = .ok (.putfield 26, 3) := by decide +kernel
theorem dX2_take_25 : decode cX2_take 25 = .ok (.aload_n 0, 1) := by decide +kernel
theorem dX2_take_26 : decode cX2_take 26 = .ok (.iload_n 1, 1) := by decide +kernel
theorem dX2_take_27 : decode cX2_take 27 = .ok (.bipush 127, 2) := by decide +kernel
theorem dX2_take_29 : decode cX2_take 29 = .ok (.iand, 1) := by decide +kernel
theorem dX2_take_30 : decode cX2_take 30 = .ok (.bipush 60, 2) := by decide +kernel
theorem dX2_take_32 : decode cX2_take 32 = .ok (.invokestatic 29, 3) := by decide +kernel
theorem dX2_take_35 : decode cX2_take 35 = .ok (.putfield 19, 3) := by decide +kernel
theorem dX2_take_38 : decode cX2_take 38 = .ok (.aload_n 0, 1) := by decide +kernel
theorem dX2_take_39 : decode cX2_take 39 = .ok (.iconst 0, 1) := by decide +kernel
theorem dX2_take_40 : decode cX2_take 40 = .ok (.putfield 23, 3) := by decide +kernel
theorem dX2_take_43 : decode cX2_take 43 = .ok (.goto 42, 3) := by decide +kernel
theorem dX2_take_46 : decode cX2_take 46 = .ok (.aload_n 0, 1) := by decide +kernel
theorem dX2_take_47 : decode cX2_take 47 = .ok (.getfield 23, 3) := by decide +kernel
theorem dX2_take_50 : decode cX2_take 50 = .ok (.ifCond .lt 35, 3) := by decide +kernel
theorem dX2_take_53 : decode cX2_take 53 = .ok (.aload_n 0, 1) := by decide +kernel
theorem dX2_take_54 : decode cX2_take 54 = .ok (.getfield 23, 3) := by decide +kernel
theorem dX2_take_57 : decode cX2_take 57 = .ok (.aload_n 0, 1) := by decide +kernel
theorem dX2_take_58 : decode cX2_take 58 = .ok (.getfield 9, 3) := by decide +kernel
theorem dX2_take_61 : decode cX2_take 61 = .ok (.arraylength, 1) := by decide +kernel
theorem dX2_take_62 : decode cX2_take 62 = .ok (.if_icmp .ge 23, 3) := by decide +kernel
theorem dX2_take_65 : decode cX2_take 65 = .ok (.aload_n 0, 1) := by decide +kernel
theorem dX2_take_66 : decode cX2_take 66 = .ok (.getfield 9, 3) := by decide +kernel
theorem dX2_take_69 : decode cX2_take 69 = .ok (.aload_n 0, 1) := by decide +kernel
theorem dX2_take_70 : decode cX2_take 70 = .ok (.getfield 23, 3) := by decide +kernel
theorem dX2_take_73 : decode cX2_take 73 = .ok (.iload_n 1, 1) := by decide +kernel
theorem dX2_take_74 : decode cX2_take 74 = .ok (.bastore, 1) := by decide +kernel
theorem dX2_take_75 : decode cX2_take 75 = .ok (.aload_n 0, 1) := by decide +kernel
theorem dX2_take_76 : decode cX2_take 76 = .ok (.dup, 1) := by decide +kernel
theorem dX2_take_77 : decode cX2_take 77 = .ok (.getfield 23, 3) := by decide +kernel
theorem dX2_take_80 : decode cX2_take 80 = .ok (.iconst 1, 1) := by decide +kernel
theorem dX2_take_81 : decode cX2_take 81 = .ok (.iadd, 1) := by decide +kernel
theorem dX2_take_82 : decode cX2_take 82 = .ok (.putfield 23, 3) := by decide +kernel
theorem dX2_take_85 : decode cX2_take 85 = .ok (.return_, 1) := by decide +kernel
theorem dX2_isWhole_0 : decode cX2_isWhole 0 = .ok (.aload_n 0, 1) := by decide +kernel
theorem dX2_isWhole_1 : decode cX2_isWhole 1 = .ok (.getfield 15, 3) := by decide +kernel
theorem dX2_isWhole_4 : decode cX2_isWhole 4 = .ok (.ifCond .eq 18, 3) := by decide +kernel
theorem dX2_isWhole_7 : decode cX2_isWhole 7 = .ok (.aload_n 0, 1) := by decide +kernel
theorem dX2_isWhole_8 : decode cX2_isWhole 8 = .ok (.getfield 23, 3) := by decide +kernel
theorem dX2_isWhole_11 : decode cX2_isWhole 11 = .ok (.aload_n 0, 1) := by decide +kernel
theorem dX2_isWhole_12 : decode cX2_isWhole 12 = .ok (.getfield 19, 3) := by decide +kernel
theorem dX2_isWhole_15 : decode cX2_isWhole 15 = .ok (.if_icmp .lt 7, 3) := by decide +kernel
theorem dX2_isWhole_18 : decode cX2_isWhole 18 = .ok (.iconst 1, 1) := by decide +kernel
theorem dX2_isWhole_19 : decode cX2_isWhole 19 = .ok (.goto 4, 3) := by decide +kernel
theorem dX2_isWhole_22 : decode cX2_isWhole 22 = .ok (.iconst 0, 1) := by decide +kernel
theorem dX2_isWhole_23 : decode cX2_isWhole 23 = .ok (.ireturn, 1) := by decide +kernel
theorem dX2_end_0 : decode cX2_end 0 = .ok (.aload_n 0, 1) := by decide +kernel
theorem dX2_end_1 : decode cX2_end 1 = .ok (.iconst 0, 1) := by decide +kernel
theorem dX2_end_2 : decode cX2_end 2 = .ok (.putfield 15, 3) := by decide +kernel
theorem dX2_end_5 : decode cX2_end 5 = .ok (.return_, 1) := by decide +kernel
theorem dX2_isEmpty_0 : decode cX2_isEmpty 0 = .ok (.aload_n 0, 1) := by decide +kernel
theorem dX2_isEmpty_1 : decode cX2_isEmpty 1 = .ok (.getfield 23, 3) := by decide +kernel
theorem dX2_isEmpty_4 : decode cX2_isEmpty 4 = .ok (.ifCond .ne 7, 3) := by decide +kernel
theorem dX2_isEmpty_7 : decode cX2_isEmpty 7 = .ok (.iconst 1, 1) := by decide +kernel
theorem dX2_isEmpty_8 : decode cX2_isEmpty 8 = .ok (.goto 4, 3) := by decide +kernel
theorem dX2_isEmpty_11 : decode cX2_isEmpty 11 = .ok (.iconst 0, 1) := by decide +kernel
theorem dX2_isEmpty_12 : decode cX2_isEmpty 12 = .ok (.ireturn, 1) := by decide +kernel
theorem dX2_service_0 : decode cX2_service 0 = .ok (.aload_n 0, 1) := by decide +kernel
theorem dX2_service_1 : decode cX2_service 1 = .ok (.getfield 23, 3) := by decide +kernel
theorem dX2_service_4 : decode cX2_service 4 = .ok (.ifCond .ne 7, 3) := by decide +kernel
theorem dX2_service_7 : decode cX2_service 7 = .ok (.iconst 0, 1) := by decide +kernel
theorem dX2_service_8 : decode cX2_service 8 = .ok (.goto 13, 3) := by decide +kernel
theorem dX2_service_11 : decode cX2_service 11 = .ok (.aload_n 0, 1) := by decide +kernel
theorem dX2_service_12 : decode cX2_service 12 = .ok (.getfield 9, 3) := by decide +kernel
theorem dX2_service_15 : decode cX2_service 15 = .ok (.iconst 0, 1) := by decide +kernel
theorem dX2_service_16 : decode cX2_service 16 = .ok (.baload, 1) := by decide +kernel
theorem dX2_service_17 : decode cX2_service 17 = .ok (.sipush 255, 3) := by decide +kernel
theorem dX2_service_20 : decode cX2_service 20 = .ok (.iand, 1) := by decide +kernel
theorem dX2_service_21 : decode cX2_service 21 = .ok (.ireturn, 1) := by decide +kernel
theorem dX2_size_0 : decode cX2_size 0 = .ok (.aload_n 0, 1) := by decide +kernel
theorem dX2_size_1 : decode cX2_size 1 = .ok (.getfield 23, 3) := by decide +kernel
theorem dX2_size_4 : decode cX2_size 4 = .ok (.ifCond .ne 7, 3) := by decide +kernel
theorem dX2_size_7 : decode cX2_size 7 = .ok (.iconst 0, 1) := by decide +kernel
theorem dX2_size_8 : decode cX2_size 8 = .ok (.goto 9, 3) := by decide +kernel
theorem dX2_size_11 : decode cX2_size 11 = .ok (.aload_n 0, 1) := by decide +kernel
theorem dX2_size_12 : decode cX2_size 12 = .ok (.getfield 23, 3) := by decide +kernel
theorem dX2_size_15 : decode cX2_size 15 = .ok (.iconst 1, 1) := by decide +kernel
theorem dX2_size_16 : decode cX2_size 16 = .ok (.isub, 1) := by decide +kernel
theorem dX2_size_17 : decode cX2_size 17 = .ok (.ireturn, 1) := by decide +kernel
theorem dX2_octetAt_0 : decode cX2_octetAt 0 = .ok (.iload_n 1, 1) := by decide +kernel
theorem dX2_octetAt_1 : decode cX2_octetAt 1 = .ok (.iconst 1, 1) := by decide +kernel
theorem dX2_octetAt_2 : decode cX2_octetAt 2 = .ok (.iadd, 1) := by decide +kernel
theorem dX2_octetAt_3 : decode cX2_octetAt 3 = .ok (.istore_n 2, 1) := by decide +kernel
theorem dX2_octetAt_4 : decode cX2_octetAt 4 = .ok (.iload_n 2, 1) := by decide +kernel
theorem dX2_octetAt_5 : decode cX2_octetAt 5 = .ok (.iconst 1, 1) := by decide +kernel
theorem dX2_octetAt_6 : decode cX2_octetAt 6 = .ok (.if_icmp .lt 20, 3) := by decide +kernel
theorem dX2_octetAt_9 : decode cX2_octetAt 9 = .ok (.iload_n 2, 1) := by decide +kernel
theorem dX2_octetAt_10 : decode cX2_octetAt 10 = .ok (.aload_n 0, 1) := by decide +kernel
theorem dX2_octetAt_11 : decode cX2_octetAt 11 = .ok (.getfield 23, 3) := by decide +kernel
theorem dX2_octetAt_14 : decode cX2_octetAt 14 = .ok (.if_icmp .ge 12, 3) := by decide +kernel
theorem dX2_octetAt_17 : decode cX2_octetAt 17 = .ok (.iload_n 2, 1) := by decide +kernel
theorem dX2_octetAt_18 : decode cX2_octetAt 18 = .ok (.aload_n 0, 1) := by decide +kernel
theorem dX2_octetAt_19 : decode cX2_octetAt 19 = .ok (.getfield 9, 3) := by decide +kernel
theorem dX2_octetAt_22 : decode cX2_octetAt 22 = .ok (.arraylength, 1) := by decide +kernel
theorem dX2_octetAt_23 : decode cX2_octetAt 23 = .ok (.if_icmp .lt 7, 3) := by decide +kernel
theorem dX2_octetAt_26 : decode cX2_octetAt 26 = .ok (.iconst 0, 1) := by decide +kernel
theorem dX2_octetAt_27 : decode cX2_octetAt 27 = .ok (.goto 13, 3) := by decide +kernel
theorem dX2_octetAt_30 : decode cX2_octetAt 30 = .ok (.aload_n 0, 1) := by decide +kernel
theorem dX2_octetAt_31 : decode cX2_octetAt 31 = .ok (.getfield 9, 3) := by decide +kernel
theorem dX2_octetAt_34 : decode cX2_octetAt 34 = .ok (.iload_n 2, 1) := by decide +kernel
theorem dX2_octetAt_35 : decode cX2_octetAt 35 = .ok (.baload, 1) := by decide +kernel
theorem dX2_octetAt_36 : decode cX2_octetAt 36 = .ok (.sipush 255, 3) := by decide +kernel
theorem dX2_octetAt_39 : decode cX2_octetAt 39 = .ok (.iand, 1) := by decide +kernel
theorem dX2_octetAt_40 : decode cX2_octetAt 40 = .ok (.ireturn, 1) := by decide +kernel
theorem dX2_word_0 : decode cX2_word 0 = .ok (.aload_n 0, 1) := by decide +kernel
theorem dX2_word_1 : decode cX2_word 1 = .ok (.iload_n 1, 1) := by decide +kernel
theorem dX2_word_2 : decode cX2_word 2 = .ok (.invokevirtual 35, 3) := by decide +kernel
theorem dX2_word_5 : decode cX2_word 5 = .ok (.bipush 8, 2) := by decide +kernel
theorem dX2_word_7 : decode cX2_word 7 = .ok (.ishl, 1) := by decide +kernel
theorem dX2_word_8 : decode cX2_word 8 = .ok (.aload_n 0, 1) := by decide +kernel
theorem dX2_word_9 : decode cX2_word 9 = .ok (.iload_n 1, 1) := by decide +kernel
theorem dX2_word_10 : decode cX2_word 10 = .ok (.iconst 1, 1) := by decide +kernel
theorem dX2_word_11 : decode cX2_word 11 = .ok (.iadd, 1) := by decide +kernel
theorem dX2_word_12 : decode cX2_word 12 = .ok (.invokevirtual 35, 3) := by decide +kernel
theorem dX2_word_15 : decode cX2_word 15 = .ok (.ior, 1) := by decide +kernel
theorem dX2_word_16 : decode cX2_word 16 = .ok (.ireturn, 1) := by decide +kernel
theorem dX2_number_0 : decode cX2_number 0 = .ok (.lconst 0, 1) := by decide +kernel
theorem dX2_number_1 : decode cX2_number 1 = .ok (.lstore_n 3, 1) := by decide +kernel
theorem dX2_number_2 : decode cX2_number 2 = .ok (.iconst 0, 1) := by decide +kernel
theorem dX2_number_3 : decode cX2_number 3 = .ok (.istore 5, 2) := by decide +kernel
theorem dX2_number_5 : decode cX2_number 5 = .ok (.iload 5, 2) := by decide +kernel
theorem dX2_number_7 : decode cX2_number 7 = .ok (.iload_n 2, 1) := by decide +kernel
theorem dX2_number_8 : decode cX2_number 8 = .ok (.if_icmp .ge 24, 3) := by decide +kernel
theorem dX2_number_11 : decode cX2_number 11 = .ok (.lload_n 3, 1) := by decide +kernel
theorem dX2_number_12 : decode cX2_number 12 = .ok (.bipush 8, 2) := by decide +kernel
theorem dX2_number_14 : decode cX2_number 14 = .ok (.lshl, 1) := by decide +kernel
theorem dX2_number_15 : decode cX2_number 15 = .ok (.aload_n 0, 1) := by decide +kernel
theorem dX2_number_16 : decode cX2_number 16 = .ok (.iload_n 1, 1) := by decide +kernel
theorem dX2_number_17 : decode cX2_number 17 = .ok (.iload 5, 2) := by decide +kernel
theorem dX2_number_19 : decode cX2_number 19 = .ok (.iadd, 1) := by decide +kernel
theorem dX2_number_20 : decode cX2_number 20 = .ok (.invokevirtual 35, 3) := by decide +kernel
theorem dX2_number_23 : decode cX2_number 23 = .ok (.i2l, 1) := by decide +kernel
theorem dX2_number_24 : decode cX2_number 24 = .ok (.lor, 1) := by decide +kernel
theorem dX2_number_25 : decode cX2_number 25 = .ok (.lstore_n 3, 1) := by decide +kernel
theorem dX2_number_26 : decode cX2_number 26 = .ok (.iinc 5 1, 3) := by decide +kernel
theorem dX2_number_29 : decode cX2_number 29 = .ok (.goto (-24), 3) := by decide +kernel
theorem dX2_number_32 : decode cX2_number 32 = .ok (.lload_n 3, 1) := by decide +kernel
theorem dX2_number_33 : decode cX2_number 33 = .ok (.lreturn, 1) := by decide +kernel
theorem dX2_function_0 : decode cX2_function 0 = .ok (.aload_n 0, 1) := by decide +kernel
theorem dX2_function_1 : decode cX2_function 1 = .ok (.iconst 0, 1) := by decide +kernel
theorem dX2_function_2 : decode cX2_function 2 = .ok (.invokevirtual 35, 3) := by decide +kernel
theorem dX2_function_5 : decode cX2_function 5 = .ok (.bipush 127, 2) := by decide +kernel
theorem dX2_function_7 : decode cX2_function 7 = .ok (.iand, 1) := by decide +kernel
theorem dX2_function_8 : decode cX2_function 8 = .ok (.ireturn, 1) := by decide +kernel
theorem dX2_wantsNoAnswer_0 : decode cX2_wantsNoAnswer 0 = .ok (.aload_n 0, 1) := by decide +kernel
theorem dX2_wantsNoAnswer_1 : decode cX2_wantsNoAnswer 1 = .ok (.invokevirtual 39, 3) := by decide +kernel
theorem dX2_wantsNoAnswer_4 : decode cX2_wantsNoAnswer 4 = .ok (.istore_n 1, 1) := by decide +kernel
theorem dX2_wantsNoAnswer_5 : decode cX2_wantsNoAnswer 5 = .ok (.aload_n 0, 1) := by decide +kernel
theorem dX2_wantsNoAnswer_6 : decode cX2_wantsNoAnswer 6 = .ok (.iconst 0, 1) := by decide +kernel
theorem dX2_wantsNoAnswer_7 : decode cX2_wantsNoAnswer 7 = .ok (.invokevirtual 35, 3) := by decide +kernel
theorem dX2_wantsNoAnswer_10 : decode cX2_wantsNoAnswer 10 = .ok (.bipush 127, 2) := by decide +kernel
theorem dX2_wantsNoAnswer_12 : decode cX2_wantsNoAnswer 12 = .ok (.if_icmp .le 31, 3) := by decide +kernel
theorem dX2_wantsNoAnswer_15 : decode cX2_wantsNoAnswer 15 = .ok (.iload_n 1, 1) := by decide +kernel
theorem dX2_wantsNoAnswer_16 : decode cX2_wantsNoAnswer 16 = .ok (.bipush 16, 2) := by decide +kernel
theorem dX2_wantsNoAnswer_18 : decode cX2_wantsNoAnswer 18 = .ok (.if_icmp .eq 21, 3) := by decide +kernel
theorem dX2_wantsNoAnswer_21 : decode cX2_wantsNoAnswer 21 = .ok (.iload_n 1, 1) := by decide +kernel
theorem dX2_wantsNoAnswer_22 : decode cX2_wantsNoAnswer 22 = .ok (.bipush 17, 2) := by decide +kernel
theorem dX2_wantsNoAnswer_24 : decode cX2_wantsNoAnswer 24 = .ok (.if_icmp .eq 15, 3) := by decide +kernel
theorem dX2_wantsNoAnswer_27 : decode cX2_wantsNoAnswer 27 = .ok (.iload_n 1, 1) := by decide +kernel
theorem dX2_wantsNoAnswer_28 : decode cX2_wantsNoAnswer 28 = .ok (.bipush 49, 2) := by decide +kernel
theorem dX2_wantsNoAnswer_30 : decode cX2_wantsNoAnswer 30 = .ok (.if_icmp .eq 9, 3) := by decide +kernel
theorem dX2_wantsNoAnswer_33 : decode cX2_wantsNoAnswer 33 = .ok (.iload_n 1, 1) := by decide +kernel
theorem dX2_wantsNoAnswer_34 : decode cX2_wantsNoAnswer 34 = .ok (.bipush 62, 2) := by decide +kernel
theorem dX2_wantsNoAnswer_36 : decode cX2_wantsNoAnswer 36 = .ok (.if_icmp .ne 7, 3) := by decide +kernel
theorem dX2_wantsNoAnswer_39 : decode cX2_wantsNoAnswer 39 = .ok (.iconst 1, 1) := by decide +kernel
theorem dX2_wantsNoAnswer_40 : decode cX2_wantsNoAnswer 40 = .ok (.goto 4, 3) := by decide +kernel
theorem dX2_wantsNoAnswer_43 : decode cX2_wantsNoAnswer 43 = .ok (.iconst 0, 1) := by decide +kernel
theorem dX2_wantsNoAnswer_44 : decode cX2_wantsNoAnswer 44 = .ok (.ireturn, 1) := by decide +kernel
theorem dX3_init_0 : decode cX3_init 0 = .ok (.aload_n 0, 1) := by decide +kernel
theorem dX3_init_1 : decode cX3_init 1 = .ok (.invokespecial 1, 3) := by decide +kernel
theorem dX3_init_4 : decode cX3_init 4 = .ok (.aload_n 0, 1) := by decide +kernel
theorem dX3_init_5 : decode cX3_init 5 = .ok (.iconst 0, 1) := by decide +kernel
theorem dX3_init_6 : decode cX3_init 6 = .ok (.putfield 7, 3) := by decide +kernel
theorem dX3_init_9 : decode cX3_init 9 = .ok (.aload_n 0, 1) := by decide +kernel
theorem dX3_init_10 : decode cX3_init 10 = .ok (.iconst 0, 1) := by decide +kernel
theorem dX3_init_11 : decode cX3_init 11 = .ok (.putfield 13, 3) := by decide +kernel
theorem dX3_init_14 : decode cX3_init 14 = .ok (.aload_n 0, 1) := by decide +kernel
theorem dX3_init_15 : decode cX3_init 15 = .ok (.iconst 0, 1) := by decide +kernel
theorem dX3_init_16 : decode cX3_init 16 = .ok (.putfield 17, 3) := by decide +kernel
theorem dX3_init_19 : decode cX3_init 19 = .ok (.aload_n 0, 1) := by decide +kernel
theorem dX3_init_20 : decode cX3_init 20 = .ok (.iload_n 1, 1) := by decide +kernel
theorem dX3_init_21 : decode cX3_init 21 = .ok (.putfield 20, 3) := by decide +kernel
theorem dX3_init_24 : decode cX3_init 24 = .ok (.aload_n 0, 1) := by decide +kernel
theorem dX3_init_25 : decode cX3_init 25 = .ok (.iload_n 2, 1) := by decide +kernel
theorem dX3_init_26 : decode cX3_init 26 = .ok (.putfield 23, 3) := by decide +kernel
theorem dX3_init_29 : decode cX3_init 29 = .ok (.return_, 1) := by decide +kernel
theorem dX3_start_0 : decode cX3_start 0 = .ok (.aload_n 0, 1) := by decide +kernel
theorem dX3_start_1 : decode cX3_start 1 = .ok (.iconst 1, 1) := by decide +kernel
theorem dX3_start_2 : decode cX3_start 2 = .ok (.putfield 7, 3) := by decide +kernel
theorem dX3_start_5 : decode cX3_start 5 = .ok (.aload_n 0, 1) := by decide +kernel
theorem dX3_start_6 : decode cX3_start 6 = .ok (.aload_n 0, 1) := by decide +kernel
theorem dX3_start_7 : decode cX3_start 7 = .ok (.getfield 23, 3) := by decide +kernel
theorem dX3_start_10 : decode cX3_start 10 = .ok (.putfield 13, 3) := by decide +kernel
theorem dX3_start_13 : decode cX3_start 13 = .ok (.aload_n 0, 1) := by decide +kernel
theorem dX3_start_14 : decode cX3_start 14 = .ok (.iconst 0, 1) := by decide +kernel
theorem dX3_start_15 : decode cX3_start 15 = .ok (.putfield 17, 3) := by decide +kernel
theorem dX3_start_18 : decode cX3_start 18 = .ok (.return_, 1) := by decide +kernel
theorem dX3_step_0 : decode cX3_step 0 = .ok (.aload_n 0, 1) := by decide +kernel
theorem dX3_step_1 : decode cX3_step 1 = .ok (.getfield 7, 3) := by decide +kernel
theorem dX3_step_4 : decode cX3_step 4 = .ok (.ifCond .eq 20, 3) := by decide +kernel
theorem dX3_step_7 : decode cX3_step 7 = .ok (.aload_n 0, 1) := by decide +kernel
theorem dX3_step_8 : decode cX3_step 8 = .ok (.getfield 13, 3) := by decide +kernel
theorem dX3_step_11 : decode cX3_step 11 = .ok (.ifCond .le 13, 3) := by decide +kernel
theorem dX3_step_14 : decode cX3_step 14 = .ok (.aload_n 0, 1) := by decide +kernel
theorem dX3_step_15 : decode cX3_step 15 = .ok (.dup, 1) := by decide +kernel
theorem dX3_step_16 : decode cX3_step 16 = .ok (.getfield 13, 3) := by decide +kernel
theorem dX3_step_19 : decode cX3_step 19 = .ok (.iconst 1, 1) := by decide +kernel
theorem dX3_step_20 : decode cX3_step 20 = .ok (.isub, 1) := by decide +kernel
theorem dX3_step_21 : decode cX3_step 21 = .ok (.putfield 13, 3) := by decide +kernel
theorem dX3_step_24 : decode cX3_step 24 = .ok (.return_, 1) := by decide +kernel
theorem dX3_forget_0 : decode cX3_forget 0 = .ok (.aload_n 0, 1) := by decide +kernel
theorem dX3_forget_1 : decode cX3_forget 1 = .ok (.iconst 0, 1) := by decide +kernel
theorem dX3_forget_2 : decode cX3_forget 2 = .ok (.putfield 7, 3) := by decide +kernel
theorem dX3_forget_5 : decode cX3_forget 5 = .ok (.aload_n 0, 1) := by decide +kernel
theorem dX3_forget_6 : decode cX3_forget 6 = .ok (.iconst 0, 1) := by decide +kernel
theorem dX3_forget_7 : decode cX3_forget 7 = .ok (.putfield 13, 3) := by decide +kernel
theorem dX3_forget_10 : decode cX3_forget 10 = .ok (.return_, 1) := by decide +kernel
theorem dX4_init_0 : decode cX4_init 0 = .ok (.aload_n 0, 1) := by decide +kernel
theorem dX4_init_1 : decode cX4_init 1 = .ok (.invokespecial 1, 3) := by decide +kernel
theorem dX4_init_4 : decode cX4_init 4 = .ok (.aload_n 0, 1) := by decide +kernel
theorem dX4_init_5 : decode cX4_init 5 = .ok (.iconst 0, 1) := by decide +kernel
theorem dX4_init_6 : decode cX4_init 6 = .ok (.putfield 7, 3) := by decide +kernel
theorem dX4_init_9 : decode cX4_init 9 = .ok (.aload_n 0, 1) := by decide +kernel
theorem dX4_init_10 : decode cX4_init 10 = .ok (.iconst 0, 1) := by decide +kernel
theorem dX4_init_11 : decode cX4_init 11 = .ok (.putfield 13, 3) := by decide +kernel
theorem dX4_init_14 : decode cX4_init 14 = .ok (.aload_n 0, 1) := by decide +kernel
theorem dX4_init_15 : decode cX4_init 15 = .ok (.iconst 0, 1) := by decide +kernel
theorem dX4_init_16 : decode cX4_init 16 = .ok (.putfield 17, 3) := by decide +kernel
theorem dX4_init_19 : decode cX4_init 19 = .ok (.aload_n 0, 1) := by decide +kernel
theorem dX4_init_20 : decode cX4_init 20 = .ok (.iconst 0, 1) := by decide +kernel
theorem dX4_init_21 : decode cX4_init 21 = .ok (.putfield 20, 3) := by decide +kernel
theorem dX4_init_24 : decode cX4_init 24 = .ok (.return_, 1) := by decide +kernel
theorem dX4_open_0 : decode cX4_open 0 = .ok (.aload_n 0, 1) := by decide +kernel
theorem dX4_open_1 : decode cX4_open 1 = .ok (.iconst 1, 1) := by decide +kernel
theorem dX4_open_2 : decode cX4_open 2 = .ok (.putfield 7, 3) := by decide +kernel
theorem dX4_open_5 : decode cX4_open 5 = .ok (.aload_n 0, 1) := by decide +kernel
theorem dX4_open_6 : decode cX4_open 6 = .ok (.iload_n 1, 1) := by decide +kernel
theorem dX4_open_7 : decode cX4_open 7 = .ok (.putfield 13, 3) := by decide +kernel
theorem dX4_open_10 : decode cX4_open 10 = .ok (.aload_n 0, 1) := by decide +kernel
theorem dX4_open_11 : decode cX4_open 11 = .ok (.iconst 0, 1) := by decide +kernel
theorem dX4_open_12 : decode cX4_open 12 = .ok (.putfield 17, 3) := by decide +kernel
theorem dX4_open_15 : decode cX4_open 15 = .ok (.aload_n 0, 1) := by decide +kernel
theorem dX4_open_16 : decode cX4_open 16 = .ok (.iconst 0, 1) := by decide +kernel
theorem dX4_open_17 : decode cX4_open 17 = .ok (.putfield 20, 3) := by decide +kernel
theorem dX4_open_20 : decode cX4_open 20 = .ok (.return_, 1) := by decide +kernel
theorem dX4_close_0 : decode cX4_close 0 = .ok (.aload_n 0, 1) := by decide +kernel
theorem dX4_close_1 : decode cX4_close 1 = .ok (.iconst 0, 1) := by decide +kernel
theorem dX4_close_2 : decode cX4_close 2 = .ok (.putfield 7, 3) := by decide +kernel
theorem dX4_close_5 : decode cX4_close 5 = .ok (.aload_n 0, 1) := by decide +kernel
theorem dX4_close_6 : decode cX4_close 6 = .ok (.iconst 0, 1) := by decide +kernel
theorem dX4_close_7 : decode cX4_close 7 = .ok (.putfield 13, 3) := by decide +kernel
theorem dX4_close_10 : decode cX4_close 10 = .ok (.return_, 1) := by decide +kernel
theorem dX4_isBlockBefore_0 : decode cX4_isBlockBefore 0 = .ok (.aload_n 0, 1) := by decide +kernel
theorem dX4_isBlockBefore_1 : decode cX4_isBlockBefore 1 = .ok (.getfield 20, 3) := by decide +kernel
theorem dX4_isBlockBefore_4 : decode cX4_isBlockBefore 4 = .ok (.ifCond .le 19, 3) := by decide +kernel
theorem dX4_isBlockBefore_7 : decode cX4_isBlockBefore 7 = .ok (.iload_n 1, 1) := by decide +kernel
theorem dX4_isBlockBefore_8 : decode cX4_isBlockBefore 8 = .ok (.aload_n 0, 1) := by decide +kernel
theorem dX4_isBlockBefore_9 : decode cX4_isBlockBefore 9 = .ok (.getfield 20, 3) := by decide +kernel
theorem dX4_isBlockBefore_12 : decode cX4_isBlockBefore 12 = .ok (.sipush 255, 3) := by decide +kernel
theorem dX4_isBlockBefore_15 : decode cX4_isBlockBefore 15 = .ok (.iand, 1) := by decide +kernel
theorem dX4_isBlockBefore_16 : decode cX4_isBlockBefore 16 = .ok (.if_icmp .ne 7, 3) := by decide +kernel
theorem dX4_isBlockBefore_19 : decode cX4_isBlockBefore 19 = .ok (.iconst 1, 1) := by decide +kernel
theorem dX4_isBlockBefore_20 : decode cX4_isBlockBefore 20 = .ok (.goto 4, 3) := by decide +kernel
theorem dX4_isBlockBefore_23 : decode cX4_isBlockBefore 23 = .ok (.iconst 0, 1) := by decide +kernel
theorem dX4_isBlockBefore_24 : decode cX4_isBlockBefore 24 = .ok (.ireturn, 1) := by decide +kernel
theorem dX4_nextBlock_0 : decode cX4_nextBlock 0 = .ok (.aload_n 0, 1) := by decide +kernel
theorem dX4_nextBlock_1 : decode cX4_nextBlock 1 = .ok (.getfield 20, 3) := by decide +kernel
theorem dX4_nextBlock_4 : decode cX4_nextBlock 4 = .ok (.iconst 1, 1) := by decide +kernel
theorem dX4_nextBlock_5 : decode cX4_nextBlock 5 = .ok (.iadd, 1) := by decide +kernel
theorem dX4_nextBlock_6 : decode cX4_nextBlock 6 = .ok (.sipush 255, 3) := by decide +kernel
theorem dX4_nextBlock_9 : decode cX4_nextBlock 9 = .ok (.iand, 1) := by decide +kernel
theorem dX4_nextBlock_10 : decode cX4_nextBlock 10 = .ok (.ireturn, 1) := by decide +kernel
theorem dX4_add_0 : decode cX4_add 0 = .ok (.iconst 1, 1) := by decide +kernel
theorem dX4_add_1 : decode cX4_add 1 = .ok (.istore_n 3, 1) := by decide +kernel
theorem dX4_add_2 : decode cX4_add 2 = .ok (.iload_n 3, 1) := by decide +kernel
theorem dX4_add_3 : decode cX4_add 3 = .ok (.iload_n 2, 1) := by decide +kernel
theorem dX4_add_4 : decode cX4_add 4 = .ok (.if_icmp .gt 26, 3) := by decide +kernel
theorem dX4_add_7 : decode cX4_add 7 = .ok (.aload_n 0, 1) := by decide +kernel
theorem dX4_add_8 : decode cX4_add 8 = .ok (.aload_n 0, 1) := by decide +kernel
theorem dX4_add_9 : decode cX4_add 9 = .ok (.getfield 17, 3) := by decide +kernel
theorem dX4_add_12 : decode cX4_add 12 = .ok (.aload_n 1, 1) := by decide +kernel
theorem dX4_add_13 : decode cX4_add 13 = .ok (.iload_n 3, 1) := by decide +kernel
theorem dX4_add_14 : decode cX4_add 14 = .ok (.invokevirtual 23, 3) := by decide +kernel
theorem dX4_add_17 : decode cX4_add 17 = .ok (.iadd, 1) := by decide +kernel
theorem dX4_add_18 : decode cX4_add 18 = .ok (.ldc 29, 2) := by decide +kernel
theorem dX4_add_20 : decode cX4_add 20 = .ok (.iand, 1) := by decide +kernel
theorem dX4_add_21 : decode cX4_add 21 = .ok (.putfield 17, 3) := by decide +kernel
theorem dX4_add_24 : decode cX4_add 24 = .ok (.iinc 3 1, 3) := by decide +kernel
theorem dX4_add_27 : decode cX4_add 27 = .ok (.goto (-25), 3) := by decide +kernel
theorem dX4_add_30 : decode cX4_add 30 = .ok (.aload_n 0, 1) := by decide +kernel
theorem dX4_add_31 : decode cX4_add 31 = .ok (.dup, 1) := by decide +kernel
theorem dX4_add_32 : decode cX4_add 32 = .ok (.getfield 13, 3) := by decide +kernel
theorem dX4_add_35 : decode cX4_add 35 = .ok (.iload_n 2, 1) := by decide +kernel
theorem dX4_add_36 : decode cX4_add 36 = .ok (.isub, 1) := by decide +kernel
theorem dX4_add_37 : decode cX4_add 37 = .ok (.putfield 13, 3) := by decide +kernel
theorem dX4_add_40 : decode cX4_add 40 = .ok (.aload_n 0, 1) := by decide +kernel
theorem dX4_add_41 : decode cX4_add 41 = .ok (.dup, 1) := by decide +kernel
theorem dX4_add_42 : decode cX4_add 42 = .ok (.getfield 20, 3) := by decide +kernel
theorem dX4_add_45 : decode cX4_add 45 = .ok (.iconst 1, 1) := by decide +kernel
theorem dX4_add_46 : decode cX4_add 46 = .ok (.iadd, 1) := by decide +kernel
theorem dX4_add_47 : decode cX4_add 47 = .ok (.putfield 20, 3) := by decide +kernel
theorem dX4_add_50 : decode cX4_add 50 = .ok (.return_, 1) := by decide +kernel
theorem dJx00060_init_a7421_0 : decode cJx00060_init_a7421 0 = .ok (.aload_n 0, 1) := by decide +kernel
theorem dJx00060_init_a7421_1 : decode cJx00060_init_a7421 1 = .ok (.aload_n 1, 1) := by decide +kernel
theorem dJx00060_init_a7421_2 : decode cJx00060_init_a7421 2 = .ok (.invokespecial 7, 3) := by decide +kernel
theorem dJx00060_init_a7421_5 : decode cJx00060_init_a7421 5 = .ok (.return_, 1) := by decide +kernel
theorem dJ9_min_7cf53_0 : decode cJ9_min_7cf53 0 = .ok (.iload_n 0, 1) := by decide +kernel
theorem dJ9_min_7cf53_1 : decode cJ9_min_7cf53 1 = .ok (.iload_n 1, 1) := by decide +kernel
theorem dJ9_min_7cf53_2 : decode cJ9_min_7cf53 2 = .ok (.if_icmp .gt 7, 3) := by decide +kernel
theorem dJ9_min_7cf53_5 : decode cJ9_min_7cf53 5 = .ok (.iload_n 0, 1) := by decide +kernel
theorem dJ9_min_7cf53_6 : decode cJ9_min_7cf53 6 = .ok (.goto 4, 3) := by decide +kernel
theorem dJ9_min_7cf53_9 : decode cJ9_min_7cf53 9 = .ok (.iload_n 1, 1) := by decide +kernel
theorem dJ9_min_7cf53_10 : decode cJ9_min_7cf53 10 = .ok (.ireturn, 1) := by decide +kernel
end
section
theorem dX5_init_0 : decode cX5_init 0 = .ok (.aload_n 0, 1) := by decide +kernel
theorem dX5_init_1 : decode cX5_init 1 = .ok (.invokespecial 1, 3) := by decide +kernel
theorem dX5_init_4 : decode cX5_init 4 = .ok (.aload_n 0, 1) := by decide +kernel
theorem dX5_init_5 : decode cX5_init 5 = .ok (.bipush 40, 2) := by decide +kernel
theorem dX5_init_7 : decode cX5_init 7 = .ok (.anewarray 9, 3) := by decide +kernel
theorem dX5_init_10 : decode cX5_init 10 = .ok (.putfield 11, 3) := by decide +kernel
theorem dX5_init_13 : decode cX5_init 13 = .ok (.aload_n 0, 1) := by decide +kernel
theorem dX5_init_14 : decode cX5_init 14 = .ok (.iconst 0, 1) := by decide +kernel
theorem dX5_init_15 : decode cX5_init 15 = .ok (.putfield 15, 3) := by decide +kernel
theorem dX5_init_18 : decode cX5_init 18 = .ok (.aload_n 0, 1) := by decide +kernel
theorem dX5_init_19 : decode cX5_init 19 = .ok (.bipush 10, 2) := by decide +kernel
theorem dX5_init_21 : decode cX5_init 21 = .ok (.anewarray 19, 3) := by decide +kernel
theorem dX5_init_24 : decode cX5_init 24 = .ok (.putfield 21, 3) := by decide +kernel
theorem dX5_init_27 : decode cX5_init 27 = .ok (.aload_n 0, 1) := by decide +kernel
theorem dX5_init_28 : decode cX5_init 28 = .ok (.iconst 0, 1) := by decide +kernel
theorem dX5_init_29 : decode cX5_init 29 = .ok (.putfield 25, 3) := by decide +kernel
theorem dX5_init_32 : decode cX5_init 32 = .ok (.aload_n 0, 1) := by decide +kernel
theorem dX5_init_33 : decode cX5_init 33 = .ok (.iconst 1, 1) := by decide +kernel
theorem dX5_init_34 : decode cX5_init 34 = .ok (.putfield 28, 3) := by decide +kernel
theorem dX5_init_37 : decode cX5_init 37 = .ok (.aload_n 0, 1) := by decide +kernel
theorem dX5_init_38 : decode cX5_init 38 = .ok (.iconst 1, 1) := by decide +kernel
theorem dX5_init_39 : decode cX5_init 39 = .ok (.putfield 32, 3) := by decide +kernel
theorem dX5_init_42 : decode cX5_init 42 = .ok (.aload_n 0, 1) := by decide +kernel
theorem dX5_init_43 : decode cX5_init 43 = .ok (.iconst 1, 1) := by decide +kernel
theorem dX5_init_44 : decode cX5_init 44 = .ok (.putfield 35, 3) := by decide +kernel
theorem dX5_init_47 : decode cX5_init 47 = .ok (.aload_n 0, 1) := by decide +kernel
theorem dX5_init_48 : decode cX5_init 48 = .ok (.iconst 0, 1) := by decide +kernel
theorem dX5_init_49 : decode cX5_init 49 = .ok (.putfield 38, 3) := by decide +kernel
theorem dX5_init_52 : decode cX5_init 52 = .ok (.aload_n 0, 1) := by decide +kernel
theorem dX5_init_53 : decode cX5_init 53 = .ok (.iconst 0, 1) := by decide +kernel
theorem dX5_init_54 : decode cX5_init 54 = .ok (.putfield 41, 3) := by decide +kernel
theorem dX5_init_57 : decode cX5_init 57 = .ok (.aload_n 0, 1) := by decide +kernel
theorem dX5_init_58 : decode cX5_init 58 = .ok (.lconst 0, 1) := by decide +kernel
theorem dX5_init_59 : decode cX5_init 59 = .ok (.putfield 44, 3) := by decide +kernel
theorem dX5_init_62 : decode cX5_init 62 = .ok (.aload_n 0, 1) := by decide +kernel
theorem dX5_init_63 : decode cX5_init 63 = .ok (.lconst 0, 1) := by decide +kernel
theorem dX5_init_64 : decode cX5_init 64 = .ok (.putfield 48, 3) := by decide +kernel
theorem dX5_init_67 : decode cX5_init 67 = .ok (.aload_n 0, 1) := by decide +kernel
theorem dX5_init_68 : decode cX5_init 68 = .ok (.iconst (-1), 1) := by decide +kernel
theorem dX5_init_69 : decode cX5_init 69 = .ok (.putfield 51, 3) := by decide +kernel
theorem dX5_init_72 : decode cX5_init 72 = .ok (.aload_n 0, 1) := by decide +kernel
theorem dX5_init_73 : decode cX5_init 73 = .ok (.new 54, 3) := by decide +kernel
theorem dX5_init_76 : decode cX5_init 76 = .ok (.dup, 1) := by decide +kernel
theorem dX5_init_77 : decode cX5_init 77 = .ok (.invokespecial 56, 3) := by decide +kernel
theorem dX5_init_80 : decode cX5_init 80 = .ok (.putfield 57, 3) := by decide +kernel
theorem dX5_init_83 : decode cX5_init 83 = .ok (.aload_n 0, 1) := by decide +kernel
theorem dX5_init_84 : decode cX5_init 84 = .ok (.new 54, 3) := by decide +kernel
theorem dX5_init_87 : decode cX5_init 87 = .ok (.dup, 1) := by decide +kernel
theorem dX5_init_88 : decode cX5_init 88 = .ok (.invokespecial 56, 3) := by decide +kernel
theorem dX5_init_91 : decode cX5_init 91 = .ok (.putfield 61, 3) := by decide +kernel
theorem dX5_init_94 : decode cX5_init 94 = .ok (.aload_n 0, 1) := by decide +kernel
theorem dX5_init_95 : decode cX5_init 95 = .ok (.new 64, 3) := by decide +kernel
theorem dX5_init_98 : decode cX5_init 98 = .ok (.dup, 1) := by decide +kernel
theorem dX5_init_99 : decode cX5_init 99 = .ok (.invokespecial 66, 3) := by decide +kernel
theorem dX5_init_102 : decode cX5_init 102 = .ok (.putfield 67, 3) := by decide +kernel
theorem dX5_init_105 : decode cX5_init 105 = .ok (.aload_n 0, 1) := by decide +kernel
theorem dX5_init_106 : decode cX5_init 106 = .ok (.new 71, 3) := by decide +kernel
theorem dX5_init_109 : decode cX5_init 109 = .ok (.dup, 1) := by decide +kernel
theorem dX5_init_110 : decode cX5_init 110 = .ok (.invokespecial 73, 3) := by decide +kernel
theorem dX5_init_113 : decode cX5_init 113 = .ok (.putfield 74, 3) := by decide +kernel
theorem dX5_init_116 : decode cX5_init 116 = .ok (.return_, 1) := by decide +kernel
theorem dX5_identifier_0 : decode cX5_identifier 0 = .ok (.iload_n 1, 1) := by decide +kernel
theorem dX5_identifier_1 : decode cX5_identifier 1 = .ok (.iconst 0, 1) := by decide +kernel
theorem dX5_identifier_2 : decode cX5_identifier 2 = .ok (.ldc 78, 2) := by decide +kernel
theorem dX5_identifier_4 : decode cX5_identifier 4 = .ok (.invokestatic 79, 3) := by decide +kernel
theorem dX5_identifier_7 : decode cX5_identifier 7 = .ok (.ifCond .eq 32, 3) := by decide +kernel
theorem dX5_identifier_10 : decode cX5_identifier 10 = .ok (.iload_n 2, 1) := by decide +kernel
theorem dX5_identifier_11 : decode cX5_identifier 11 = .ok (.iconst 1, 1) := by decide +kernel
theorem dX5_identifier_12 : decode cX5_identifier 12 = .ok (.bipush 8, 2) := by decide +kernel
theorem dX5_identifier_14 : decode cX5_identifier 14 = .ok (.invokestatic 79, 3) := by decide +kernel
theorem dX5_identifier_17 : decode cX5_identifier 17 = .ok (.ifCond .eq 22, 3) := by decide +kernel
theorem dX5_identifier_20 : decode cX5_identifier 20 = .ok (.iload_n 3, 1) := by decide +kernel
theorem dX5_identifier_21 : decode cX5_identifier 21 = .ok (.iconst 1, 1) := by decide +kernel
theorem dX5_identifier_22 : decode cX5_identifier 22 = .ok (.iconst 3, 1) := by decide +kernel
theorem dX5_identifier_23 : decode cX5_identifier 23 = .ok (.invokestatic 79, 3) := by decide +kernel
theorem dX5_identifier_26 : decode cX5_identifier 26 = .ok (.ifCond .eq 13, 3) := by decide +kernel
theorem dX5_identifier_29 : decode cX5_identifier 29 = .ok (.iload 4, 2) := by decide +kernel
theorem dX5_identifier_31 : decode cX5_identifier 31 = .ok (.iconst 0, 1) := by decide +kernel
theorem dX5_identifier_32 : decode cX5_identifier 32 = .ok (.iconst 3, 1) := by decide +kernel
theorem dX5_identifier_33 : decode cX5_identifier 33 = .ok (.invokestatic 79, 3) := by decide +kernel
theorem dX5_identifier_36 : decode cX5_identifier 36 = .ok (.ifCond .ne 6, 3) := by decide +kernel
theorem dX5_identifier_39 : decode cX5_identifier 39 = .ok (.bipush (-2), 2) := by decide +kernel
theorem dX5_identifier_41 : decode cX5_identifier 41 = .ok (.ireturn, 1) := by decide +kernel
theorem dX5_identifier_42 : decode cX5_identifier 42 = .ok (.aload_n 0, 1) := by decide +kernel
theorem dX5_identifier_43 : decode cX5_identifier 43 = .ok (.iload_n 1, 1) := by decide +kernel
theorem dX5_identifier_44 : decode cX5_identifier 44 = .ok (.invokevirtual 83, 3) := by decide +kernel
theorem dX5_identifier_47 : decode cX5_identifier 47 = .ok (.ifnull 6, 3) := by decide +kernel
theorem dX5_identifier_50 : decode cX5_identifier 50 = .ok (.bipush (-3), 2) := by decide +kernel
theorem dX5_identifier_52 : decode cX5_identifier 52 = .ok (.ireturn, 1) := by decide +kernel
theorem dX5_identifier_53 : decode cX5_identifier 53 = .ok (.aload_n 0, 1) := by decide +kernel
theorem dX5_identifier_54 : decode cX5_identifier 54 = .ok (.invokevirtual 87, 3) := by decide +kernel
theorem dX5_identifier_57 : decode cX5_identifier 57 = .ok (.ifCond .ne 6, 3) := by decide +kernel
theorem dX5_identifier_60 : decode cX5_identifier 60 = .ok (.bipush (-4), 2) := by decide +kernel
theorem dX5_identifier_62 : decode cX5_identifier 62 = .ok (.ireturn, 1) := by decide +kernel
theorem dX5_identifier_63 : decode cX5_identifier 63 = .ok (.aload_n 0, 1) := by decide +kernel
theorem dX5_identifier_64 : decode cX5_identifier 64 = .ok (.new 9, 3) := by decide +kernel
theorem dX5_identifier_67 : decode cX5_identifier 67 = .ok (.dup, 1) := by decide +kernel
theorem dX5_identifier_68 : decode cX5_identifier 68 = .ok (.iload_n 1, 1) := by decide +kernel
theorem dX5_identifier_69 : decode cX5_identifier 69 = .ok (.iload_n 2, 1) := by decide +kernel
theorem dX5_identifier_70 : decode cX5_identifier 70 = .ok (.iload_n 3, 1) := by decide +kernel
theorem dX5_identifier_71 : decode cX5_identifier 71 = .ok (.iload 4, 2) := by decide +kernel
theorem dX5_identifier_73 : decode cX5_identifier 73 = .ok (.iconst 0, 1) := by decide +kernel
theorem dX5_identifier_74 : decode cX5_identifier 74 = .ok (.invokespecial 91, 3) := by decide +kernel
theorem dX5_identifier_77 : decode cX5_identifier 77 = .ok (.invokevirtual 94, 3) := by decide +kernel
theorem dX5_identifier_80 : decode cX5_identifier 80 = .ok (.aload_n 0, 1) := by decide +kernel
theorem dX5_identifier_81 : decode cX5_identifier 81 = .ok (.getfield 15, 3) := by decide +kernel
theorem dX5_identifier_84 : decode cX5_identifier 84 = .ok (.ireturn, 1) := by decide +kernel
theorem dX5_dynamic_0 : decode cX5_dynamic 0 = .ok (.aload_n 0, 1) := by decide +kernel
theorem dX5_dynamic_1 : decode cX5_dynamic 1 = .ok (.iload_n 2, 1) := by decide +kernel
theorem dX5_dynamic_2 : decode cX5_dynamic 2 = .ok (.invokevirtual 83, 3) := by decide +kernel
theorem dX5_dynamic_5 : decode cX5_dynamic 5 = .ok (.astore 4, 2) := by decide +kernel
theorem dX5_dynamic_7 : decode cX5_dynamic 7 = .ok (.aload 4, 2) := by decide +kernel
theorem dX5_dynamic_9 : decode cX5_dynamic 9 = .ok (.ifnonnull 5, 3) := by decide +kernel
theorem dX5_dynamic_12 : decode cX5_dynamic 12 = .ok (.iconst (-1), 1) := by decide +kernel
theorem dX5_dynamic_13 : decode cX5_dynamic 13 = .ok (.ireturn, 1) := by decide +kernel
theorem dX5_dynamic_14 : decode cX5_dynamic 14 = .ok (.iload_n 1, 1) := by decide +kernel
theorem dX5_dynamic_15 : decode cX5_dynamic 15 = .ok (.iconst 0, 1) := by decide +kernel
theorem dX5_dynamic_16 : decode cX5_dynamic 16 = .ok (.ldc 78, 2) := by decide +kernel
theorem dX5_dynamic_18 : decode cX5_dynamic 18 = .ok (.invokestatic 79, 3) := by decide +kernel
theorem dX5_dynamic_21 : decode cX5_dynamic 21 = .ok (.ifCond .eq 16, 3) := by decide +kernel
theorem dX5_dynamic_24 : decode cX5_dynamic 24 = .ok (.iload_n 3, 1) := by decide +kernel
theorem dX5_dynamic_25 : decode cX5_dynamic 25 = .ok (.iconst 1, 1) := by decide +kernel
theorem dX5_dynamic_26 : decode cX5_dynamic 26 = .ok (.aload 4, 2) := by decide +kernel
theorem dX5_dynamic_28 : decode cX5_dynamic 28 = .ok (.getfield 98, 3) := by decide +kernel
theorem dX5_dynamic_31 : decode cX5_dynamic 31 = .ok (.invokestatic 79, 3) := by decide +kernel
theorem dX5_dynamic_34 : decode cX5_dynamic 34 = .ok (.ifCond .ne 6, 3) := by decide +kernel
theorem dX5_dynamic_37 : decode cX5_dynamic 37 = .ok (.bipush (-2), 2) := by decide +kernel
theorem dX5_dynamic_39 : decode cX5_dynamic 39 = .ok (.ireturn, 1) := by decide +kernel
theorem dX5_dynamic_40 : decode cX5_dynamic 40 = .ok (.aload_n 0, 1) := by decide +kernel
theorem dX5_dynamic_41 : decode cX5_dynamic 41 = .ok (.iload_n 1, 1) := by decide +kernel
theorem dX5_dynamic_42 : decode cX5_dynamic 42 = .ok (.invokevirtual 83, 3) := by decide +kernel
theorem dX5_dynamic_45 : decode cX5_dynamic 45 = .ok (.astore 5, 2) := by decide +kernel
theorem dX5_dynamic_47 : decode cX5_dynamic 47 = .ok (.aload 4, 2) := by decide +kernel
theorem dX5_dynamic_49 : decode cX5_dynamic 49 = .ok (.getfield 101, 3) := by decide +kernel
theorem dX5_dynamic_52 : decode cX5_dynamic 52 = .ok (.ifCond .ne 16, 3) := by decide +kernel
theorem dX5_dynamic_55 : decode cX5_dynamic 55 = .ok (.aload 5, 2) := by decide +kernel
theorem dX5_dynamic_57 : decode cX5_dynamic 57 = .ok (.ifnull 14, 3) := by decide +kernel
theorem dX5_dynamic_60 : decode cX5_dynamic 60 = .ok (.aload 5, 2) := by decide +kernel
theorem dX5_dynamic_62 : decode cX5_dynamic 62 = .ok (.getfield 101, 3) := by decide +kernel
theorem dX5_dynamic_65 : decode cX5_dynamic 65 = .ok (.ifCond .ne 6, 3) := by decide +kernel
theorem dX5_dynamic_68 : decode cX5_dynamic 68 = .ok (.bipush (-3), 2) := by decide +kernel
theorem dX5_dynamic_70 : decode cX5_dynamic 70 = .ok (.ireturn, 1) := by decide +kernel
theorem dX5_dynamic_71 : decode cX5_dynamic 71 = .ok (.aload 5, 2) := by decide +kernel
theorem dX5_dynamic_73 : decode cX5_dynamic 73 = .ok (.ifnonnull 13, 3) := by decide +kernel
theorem dX5_dynamic_76 : decode cX5_dynamic 76 = .ok (.aload_n 0, 1) := by decide +kernel
theorem dX5_dynamic_77 : decode cX5_dynamic 77 = .ok (.invokevirtual 87, 3) := by decide +kernel
theorem dX5_dynamic_80 : decode cX5_dynamic 80 = .ok (.ifCond .ne 21, 3) := by decide +kernel
theorem dX5_dynamic_83 : decode cX5_dynamic 83 = .ok (.goto 15, 3) := by decide +kernel
theorem dX5_dynamic_86 : decode cX5_dynamic 86 = .ok (.aload 5, 2) := by decide +kernel
theorem dX5_dynamic_88 : decode cX5_dynamic 88 = .ok (.getfield 98, 3) := by decide +kernel
theorem dX5_dynamic_91 : decode cX5_dynamic 91 = .ok (.iload_n 3, 1) := by decide +kernel
theorem dX5_dynamic_92 : decode cX5_dynamic 92 = .ok (.iadd, 1) := by decide +kernel
theorem dX5_dynamic_93 : decode cX5_dynamic 93 = .ok (.bipush 8, 2) := by decide +kernel
theorem dX5_dynamic_95 : decode cX5_dynamic 95 = .ok (.if_icmp .le 6, 3) := by decide +kernel
theorem dX5_dynamic_98 : decode cX5_dynamic 98 = .ok (.bipush (-4), 2) := by decide +kernel
theorem dX5_dynamic_100 : decode cX5_dynamic 100 = .ok (.ireturn, 1) := by decide +kernel
theorem dX5_dynamic_101 : decode cX5_dynamic 101 = .ok (.aload 5, 2) := by decide +kernel
theorem dX5_dynamic_103 : decode cX5_dynamic 103 = .ok (.ifnonnull 23, 3) := by decide +kernel
theorem dX5_dynamic_106 : decode cX5_dynamic 106 = .ok (.new 9, 3) := by decide +kernel
theorem dX5_dynamic_109 : decode cX5_dynamic 109 = .ok (.dup, 1) := by decide +kernel
theorem dX5_dynamic_110 : decode cX5_dynamic 110 = .ok (.iload_n 1, 1) := by decide +kernel
theorem dX5_dynamic_111 : decode cX5_dynamic 111 = .ok (.iconst 0, 1) := by decide +kernel
theorem dX5_dynamic_112 : decode cX5_dynamic 112 = .ok (.iconst 1, 1) := by decide +kernel
theorem dX5_dynamic_113 : decode cX5_dynamic 113 = .ok (.iconst 0, 1) := by decide +kernel
theorem dX5_dynamic_114 : decode cX5_dynamic 114 = .ok (.iconst 1, 1) := by decide +kernel
theorem dX5_dynamic_115 : decode cX5_dynamic 115 = .ok (.invokespecial 91, 3) := by decide +kernel
theorem dX5_dynamic_118 : decode cX5_dynamic 118 = .ok (.astore 5, 2) := by decide +kernel
theorem dX5_dynamic_120 : decode cX5_dynamic 120 = .ok (.aload_n 0, 1) := by decide +kernel
theorem dX5_dynamic_121 : decode cX5_dynamic 121 = .ok (.aload 5, 2) := by decide +kernel
theorem dX5_dynamic_123 : decode cX5_dynamic 123 = .ok (.invokevirtual 94, 3) := by decide +kernel
theorem dX5_dynamic_126 : decode cX5_dynamic 126 = .ok (.aload 5, 2) := by decide +kernel
theorem dX5_dynamic_128 : decode cX5_dynamic 128 = .ok (.aload 4, 2) := by decide +kernel
theorem dX5_dynamic_130 : decode cX5_dynamic 130 = .ok (.iload_n 3, 1) := by decide +kernel
theorem dX5_dynamic_131 : decode cX5_dynamic 131 = .ok (.invokevirtual 104, 3) := by decide +kernel
theorem dX5_dynamic_134 : decode cX5_dynamic 134 = .ok (.aload 5, 2) := by decide +kernel
theorem dX5_dynamic_136 : decode cX5_dynamic 136 = .ok (.getfield 98, 3) := by decide +kernel
theorem dX5_dynamic_139 : decode cX5_dynamic 139 = .ok (.ireturn, 1) := by decide +kernel
theorem dX5_routine_0 : decode cX5_routine 0 = .ok (.iload_n 1, 1) := by decide +kernel
theorem dX5_routine_1 : decode cX5_routine 1 = .ok (.iconst 0, 1) := by decide +kernel
theorem dX5_routine_2 : decode cX5_routine 2 = .ok (.ldc 78, 2) := by decide +kernel
theorem dX5_routine_4 : decode cX5_routine 4 = .ok (.invokestatic 79, 3) := by decide +kernel
theorem dX5_routine_7 : decode cX5_routine 7 = .ok (.ifCond .eq 13, 3) := by decide +kernel
theorem dX5_routine_10 : decode cX5_routine 10 = .ok (.iload_n 2, 1) := by decide +kernel
theorem dX5_routine_11 : decode cX5_routine 11 = .ok (.iconst 0, 1) := by decide +kernel
theorem dX5_routine_12 : decode cX5_routine 12 = .ok (.bipush 100, 2) := by decide +kernel
theorem dX5_routine_14 : decode cX5_routine 14 = .ok (.invokestatic 79, 3) := by decide +kernel
theorem dX5_routine_17 : decode cX5_routine 17 = .ok (.ifCond .ne 6, 3) := by decide +kernel
theorem dX5_routine_20 : decode cX5_routine 20 = .ok (.bipush (-2), 2) := by decide +kernel
theorem dX5_routine_22 : decode cX5_routine 22 = .ok (.ireturn, 1) := by decide +kernel
theorem dX5_routine_23 : decode cX5_routine 23 = .ok (.aload_n 0, 1) := by decide +kernel
theorem dX5_routine_24 : decode cX5_routine 24 = .ok (.iload_n 1, 1) := by decide +kernel
theorem dX5_routine_25 : decode cX5_routine 25 = .ok (.invokevirtual 108, 3) := by decide +kernel
theorem dX5_routine_28 : decode cX5_routine 28 = .ok (.ifnull 6, 3) := by decide +kernel
theorem dX5_routine_31 : decode cX5_routine 31 = .ok (.bipush (-3), 2) := by decide +kernel
theorem dX5_routine_33 : decode cX5_routine 33 = .ok (.ireturn, 1) := by decide +kernel
theorem dX5_routine_34 : decode cX5_routine 34 = .ok (.aload_n 0, 1) := by decide +kernel
theorem dX5_routine_35 : decode cX5_routine 35 = .ok (.getfield 25, 3) := by decide +kernel
theorem dX5_routine_38 : decode cX5_routine 38 = .ok (.aload_n 0, 1) := by decide +kernel
theorem dX5_routine_39 : decode cX5_routine 39 = .ok (.getfield 21, 3) := by decide +kernel
theorem dX5_routine_42 : decode cX5_routine 42 = .ok (.arraylength, 1) := by decide +kernel
theorem dX5_routine_43 : decode cX5_routine 43 = .ok (.if_icmp .lt 6, 3) := by decide +kernel
theorem dX5_routine_46 : decode cX5_routine 46 = .ok (.bipush (-4), 2) := by decide +kernel
theorem dX5_routine_48 : decode cX5_routine 48 = .ok (.ireturn, 1) := by decide +kernel
theorem dX5_routine_49 : decode cX5_routine 49 = .ok (.aload_n 0, 1) := by decide +kernel
theorem dX5_routine_50 : decode cX5_routine 50 = .ok (.getfield 21, 3) := by decide +kernel
theorem dX5_routine_53 : decode cX5_routine 53 = .ok (.aload_n 0, 1) := by decide +kernel
theorem dX5_routine_54 : decode cX5_routine 54 = .ok (.getfield 25, 3) := by decide +kernel
theorem dX5_routine_57 : decode cX5_routine 57 = .ok (.new 19, 3) := by decide +kernel
theorem dX5_routine_60 : decode cX5_routine 60 = .ok (.dup, 1) := by decide +kernel
theorem dX5_routine_61 : decode cX5_routine 61 = .ok (.iload_n 1, 1) := by decide +kernel
theorem dX5_routine_62 : decode cX5_routine 62 = .ok (.iload_n 2, 1) := by decide +kernel
theorem dX5_routine_63 : decode cX5_routine 63 = .ok (.invokespecial 112, 3) := by decide +kernel
theorem dX5_routine_66 : decode cX5_routine 66 = .ok (.aastore, 1) := by decide +kernel
theorem dX5_routine_67 : decode cX5_routine 67 = .ok (.aload_n 0, 1) := by decide +kernel
theorem dX5_routine_68 : decode cX5_routine 68 = .ok (.dup, 1) := by decide +kernel
theorem dX5_routine_69 : decode cX5_routine 69 = .ok (.getfield 25, 3) := by decide +kernel
theorem dX5_routine_72 : decode cX5_routine 72 = .ok (.iconst 1, 1) := by decide +kernel
theorem dX5_routine_73 : decode cX5_routine 73 = .ok (.iadd, 1) := by decide +kernel
theorem dX5_routine_74 : decode cX5_routine 74 = .ok (.putfield 25, 3) := by decide +kernel
theorem dX5_routine_77 : decode cX5_routine 77 = .ok (.aload_n 0, 1) := by decide +kernel
theorem dX5_routine_78 : decode cX5_routine 78 = .ok (.getfield 25, 3) := by decide +kernel
theorem dX5_routine_81 : decode cX5_routine 81 = .ok (.ireturn, 1) := by decide +kernel
theorem dX5_condition_0 : decode cX5_condition 0 = .ok (.iload_n 1, 1) := by decide +kernel
theorem dX5_condition_1 : decode cX5_condition 1 = .ok (.ifCond .ne 11, 3) := by decide +kernel
theorem dX5_condition_4 : decode cX5_condition 4 = .ok (.aload_n 0, 1) := by decide +kernel
theorem dX5_condition_5 : decode cX5_condition 5 = .ok (.iload_n 2, 1) := by decide +kernel
theorem dX5_condition_6 : decode cX5_condition 6 = .ok (.putfield 28, 3) := by decide +kernel
theorem dX5_condition_9 : decode cX5_condition 9 = .ok (.goto 18, 3) := by decide +kernel
theorem dX5_condition_12 : decode cX5_condition 12 = .ok (.iload_n 1, 1) := by decide +kernel
theorem dX5_condition_13 : decode cX5_condition 13 = .ok (.iconst 1, 1) := by decide +kernel
theorem dX5_condition_14 : decode cX5_condition 14 = .ok (.if_icmp .ne 11, 3) := by decide +kernel
theorem dX5_condition_17 : decode cX5_condition 17 = .ok (.aload_n 0, 1) := by decide +kernel
theorem dX5_condition_18 : decode cX5_condition 18 = .ok (.iload_n 2, 1) := by decide +kernel
theorem dX5_condition_19 : decode cX5_condition 19 = .ok (.putfield 32, 3) := by decide +kernel
theorem dX5_condition_22 : decode cX5_condition 22 = .ok (.goto 5, 3) := by decide +kernel
theorem dX5_condition_25 : decode cX5_condition 25 = .ok (.iconst (-1), 1) := by decide +kernel
theorem dX5_condition_26 : decode cX5_condition 26 = .ok (.ireturn, 1) := by decide +kernel
theorem dX5_condition_27 : decode cX5_condition 27 = .ok (.aload_n 0, 1) := by decide +kernel
theorem dX5_condition_28 : decode cX5_condition 28 = .ok (.getfield 28, 3) := by decide +kernel
theorem dX5_condition_31 : decode cX5_condition 31 = .ok (.ifCond .eq 14, 3) := by decide +kernel
theorem dX5_condition_34 : decode cX5_condition 34 = .ok (.aload_n 0, 1) := by decide +kernel
theorem dX5_condition_35 : decode cX5_condition 35 = .ok (.getfield 32, 3) := by decide +kernel
theorem dX5_condition_38 : decode cX5_condition 38 = .ok (.ifCond .eq 7, 3) := by decide +kernel
theorem dX5_condition_41 : decode cX5_condition 41 = .ok (.iconst 1, 1) := by decide +kernel
theorem dX5_condition_42 : decode cX5_condition 42 = .ok (.goto 4, 3) := by decide +kernel
theorem dX5_condition_45 : decode cX5_condition 45 = .ok (.iconst 0, 1) := by decide +kernel
theorem dX5_condition_46 : decode cX5_condition 46 = .ok (.ireturn, 1) := by decide +kernel
theorem dX5_rights_0 : decode cX5_rights 0 = .ok (.iload_n 1, 1) := by decide +kernel
theorem dX5_rights_1 : decode cX5_rights 1 = .ok (.iconst 0, 1) := by decide +kernel
theorem dX5_rights_2 : decode cX5_rights 2 = .ok (.iconst 3, 1) := by decide +kernel
theorem dX5_rights_3 : decode cX5_rights 3 = .ok (.invokestatic 79, 3) := by decide +kernel
theorem dX5_rights_6 : decode cX5_rights 6 = .ok (.ifCond .ne 6, 3) := by decide +kernel
theorem dX5_rights_9 : decode cX5_rights 9 = .ok (.bipush (-2), 2) := by decide +kernel
theorem dX5_rights_11 : decode cX5_rights 11 = .ok (.ireturn, 1) := by decide +kernel
theorem dX5_rights_12 : decode cX5_rights 12 = .ok (.aload_n 0, 1) := by decide +kernel
theorem dX5_rights_13 : decode cX5_rights 13 = .ok (.getfield 38, 3) := by decide +kernel
theorem dX5_rights_16 : decode cX5_rights 16 = .ok (.istore_n 2, 1) := by decide +kernel
theorem dX5_rights_17 : decode cX5_rights 17 = .ok (.aload_n 0, 1) := by decide +kernel
theorem dX5_rights_18 : decode cX5_rights 18 = .ok (.iload_n 1, 1) := by decide +kernel
theorem dX5_rights_19 : decode cX5_rights 19 = .ok (.putfield 38, 3) := by decide +kernel
theorem dX5_rights_22 : decode cX5_rights 22 = .ok (.iload_n 2, 1) := by decide +kernel
theorem dX5_rights_23 : decode cX5_rights 23 = .ok (.ireturn, 1) := by decide +kernel
theorem dX5_control_0 : decode cX5_control 0 = .ok (.aload_n 0, 1) := by decide +kernel
theorem dX5_control_1 : decode cX5_control 1 = .ok (.iload_n 1, 1) := by decide +kernel
theorem dX5_control_2 : decode cX5_control 2 = .ok (.invokevirtual 83, 3) := by decide +kernel
theorem dX5_control_5 : decode cX5_control 5 = .ok (.astore 5, 2) := by decide +kernel
theorem dX5_control_7 : decode cX5_control 7 = .ok (.aload 5, 2) := by decide +kernel
theorem dX5_control_9 : decode cX5_control 9 = .ok (.ifnonnull 5, 3) := by decide +kernel
theorem dX5_control_12 : decode cX5_control 12 = .ok (.iconst (-1), 1) := by decide +kernel
theorem dX5_control_13 : decode cX5_control 13 = .ok (.ireturn, 1) := by decide +kernel
theorem dX5_control_14 : decode cX5_control 14 = .ok (.iload_n 2, 1) := by decide +kernel
theorem dX5_control_15 : decode cX5_control 15 = .ok (.iconst 0, 1) := by decide +kernel
theorem dX5_control_16 : decode cX5_control 16 = .ok (.iconst 1, 1) := by decide +kernel
theorem dX5_control_17 : decode cX5_control 17 = .ok (.invokestatic 79, 3) := by decide +kernel
theorem dX5_control_20 : decode cX5_control 20 = .ok (.ifCond .ne 6, 3) := by decide +kernel
theorem dX5_control_23 : decode cX5_control 23 = .ok (.bipush (-2), 2) := by decide +kernel
theorem dX5_control_25 : decode cX5_control 25 = .ok (.ireturn, 1) := by decide +kernel
theorem dX5_control_26 : decode cX5_control 26 = .ok (.aload 5, 2) := by decide +kernel
theorem dX5_control_28 : decode cX5_control 28 = .ok (.getfield 101, 3) := by decide +kernel
theorem dX5_control_31 : decode cX5_control 31 = .ok (.ifCond .eq 6, 3) := by decide +kernel
theorem dX5_control_34 : decode cX5_control 34 = .ok (.bipush (-3), 2) := by decide +kernel
theorem dX5_control_36 : decode cX5_control 36 = .ok (.ireturn, 1) := by decide +kernel
theorem dX5_control_37 : decode cX5_control 37 = .ok (.iload_n 2, 1) := by decide +kernel
theorem dX5_control_38 : decode cX5_control 38 = .ok (.ifCond .ne 12, 3) := by decide +kernel
theorem dX5_control_41 : decode cX5_control 41 = .ok (.aload 5, 2) := by decide +kernel
theorem dX5_control_43 : decode cX5_control 43 = .ok (.lload_n 3, 1) := by decide +kernel
theorem dX5_control_44 : decode cX5_control 44 = .ok (.putfield 115, 3) := by decide +kernel
theorem dX5_control_47 : decode cX5_control 47 = .ok (.goto 19, 3) := by decide +kernel
theorem dX5_control_50 : decode cX5_control 50 = .ok (.aload 5, 2) := by decide +kernel
theorem dX5_control_52 : decode cX5_control 52 = .ok (.lload_n 3, 1) := by decide +kernel
theorem dX5_control_53 : decode cX5_control 53 = .ok (.lconst 0, 1) := by decide +kernel
theorem dX5_control_54 : decode cX5_control 54 = .ok (.lcmp, 1) := by decide +kernel
theorem dX5_control_55 : decode cX5_control 55 = .ok (.ifCond .eq 7, 3) := by decide +kernel
theorem dX5_control_58 : decode cX5_control 58 = .ok (.iconst 1, 1) := by decide +kernel
theorem dX5_control_59 : decode cX5_control 59 = .ok (.goto 4, 3) := by decide +kernel
theorem dX5_control_62 : decode cX5_control 62 = .ok (.iconst 0, 1) := by decide +kernel
theorem dX5_control_63 : decode cX5_control 63 = .ok (.putfield 118, 3) := by decide +kernel
theorem dX5_control_66 : decode cX5_control 66 = .ok (.iconst 1, 1) := by decide +kernel
theorem dX5_control_67 : decode cX5_control 67 = .ok (.ireturn, 1) := by decide +kernel
theorem dX5_pending_0 : decode cX5_pending 0 = .ok (.iload_n 1, 1) := by decide +kernel
theorem dX5_pending_1 : decode cX5_pending 1 = .ok (.iconst 0, 1) := by decide +kernel
theorem dX5_pending_2 : decode cX5_pending 2 = .ok (.bipush 10, 2) := by decide +kernel
theorem dX5_pending_4 : decode cX5_pending 4 = .ok (.invokestatic 79, 3) := by decide +kernel
theorem dX5_pending_7 : decode cX5_pending 7 = .ok (.ifCond .ne 6, 3) := by decide +kernel
theorem dX5_pending_10 : decode cX5_pending 10 = .ok (.bipush (-2), 2) := by decide +kernel
theorem dX5_pending_12 : decode cX5_pending 12 = .ok (.ireturn, 1) := by decide +kernel
theorem dX5_pending_13 : decode cX5_pending 13 = .ok (.aload_n 0, 1) := by decide +kernel
theorem dX5_pending_14 : decode cX5_pending 14 = .ok (.getfield 41, 3) := by decide +kernel
theorem dX5_pending_17 : decode cX5_pending 17 = .ok (.istore_n 2, 1) := by decide +kernel
theorem dX5_pending_18 : decode cX5_pending 18 = .ok (.aload_n 0, 1) := by decide +kernel
theorem dX5_pending_19 : decode cX5_pending 19 = .ok (.iload_n 1, 1) := by decide +kernel
theorem dX5_pending_20 : decode cX5_pending 20 = .ok (.putfield 41, 3) := by decide +kernel
theorem dX5_pending_23 : decode cX5_pending 23 = .ok (.iload_n 2, 1) := by decide +kernel
theorem dX5_pending_24 : decode cX5_pending 24 = .ok (.ireturn, 1) := by decide +kernel
theorem dX5_ask_0 : decode cX5_ask 0 = .ok (.aload_n 0, 1) := by decide +kernel
theorem dX5_ask_1 : decode cX5_ask 1 = .ok (.getfield 57, 3) := by decide +kernel
theorem dX5_ask_4 : decode cX5_ask 4 = .ok (.iload_n 1, 1) := by decide +kernel
theorem dX5_ask_5 : decode cX5_ask 5 = .ok (.invokevirtual 121, 3) := by decide +kernel
theorem dX5_ask_8 : decode cX5_ask 8 = .ok (.aload_n 0, 1) := by decide +kernel
theorem dX5_ask_9 : decode cX5_ask 9 = .ok (.getfield 57, 3) := by decide +kernel
theorem dX5_ask_12 : decode cX5_ask 12 = .ok (.invokevirtual 125, 3) := by decide +kernel
theorem dX5_ask_15 : decode cX5_ask 15 = .ok (.ifCond .ne 5, 3) := by decide +kernel
theorem dX5_ask_18 : decode cX5_ask 18 = .ok (.iconst 0, 1) := by decide +kernel
theorem dX5_ask_19 : decode cX5_ask 19 = .ok (.ireturn, 1) := by decide +kernel
theorem dX5_ask_20 : decode cX5_ask 20 = .ok (.aload_n 0, 1) := by decide +kernel
theorem dX5_ask_21 : decode cX5_ask 21 = .ok (.aload_n 0, 1) := by decide +kernel
theorem dX5_ask_22 : decode cX5_ask 22 = .ok (.getfield 57, 3) := by decide +kernel
theorem dX5_ask_25 : decode cX5_ask 25 = .ok (.invokevirtual 128, 3) := by decide +kernel
theorem dX5_ask_28 : decode cX5_ask 28 = .ok (.aload_n 0, 1) := by decide +kernel
theorem dX5_ask_29 : decode cX5_ask 29 = .ok (.getfield 67, 3) := by decide +kernel
theorem dX5_ask_32 : decode cX5_ask 32 = .ok (.getfield 132, 3) := by decide +kernel
theorem dX5_ask_35 : decode cX5_ask 35 = .ok (.ireturn, 1) := by decide +kernel
theorem dX5_answer_0 : decode cX5_answer 0 = .ok (.aload_n 0, 1) := by decide +kernel
theorem dX5_answer_1 : decode cX5_answer 1 = .ok (.getfield 67, 3) := by decide +kernel
theorem dX5_answer_4 : decode cX5_answer 4 = .ok (.iload_n 1, 1) := by decide +kernel
theorem dX5_answer_5 : decode cX5_answer 5 = .ok (.invokevirtual 133, 3) := by decide +kernel
theorem dX5_answer_8 : decode cX5_answer 8 = .ok (.ifCond .ne 13, 3) := by decide +kernel
theorem dX5_answer_11 : decode cX5_answer 11 = .ok (.new 137, 3) := by decide +kernel
theorem dX5_answer_14 : decode cX5_answer 14 = .ok (.dup, 1) := by decide +kernel
theorem dX5_answer_15 : decode cX5_answer 15 = .ok (.ldc 139, 2) := by decide +kernel
theorem dX5_answer_17 : decode cX5_answer 17 = .ok (.invokespecial 141, 3) := by decide +kernel
theorem dX5_answer_20 : decode cX5_answer 20 = .ok (.athrow, 1) := by decide +kernel
theorem dX5_answer_21 : decode cX5_answer 21 = .ok (.aload_n 0, 1) := by decide +kernel
theorem dX5_answer_22 : decode cX5_answer 22 = .ok (.getfield 67, 3) := by decide +kernel
theorem dX5_answer_25 : decode cX5_answer 25 = .ok (.iload_n 1, 1) := by decide +kernel
theorem dX5_answer_26 : decode cX5_answer 26 = .ok (.invokevirtual 144, 3) := by decide +kernel
theorem dX5_answer_29 : decode cX5_answer 29 = .ok (.ireturn, 1) := by decide +kernel
theorem dX5_code_0 : decode cX5_code 0 = .ok (.aload_n 0, 1) := by decide +kernel
theorem dX5_code_1 : decode cX5_code 1 = .ok (.getfield 51, 3) := by decide +kernel
theorem dX5_code_4 : decode cX5_code 4 = .ok (.ireturn, 1) := by decide +kernel
theorem dX5_transfer_0 : decode cX5_transfer 0 = .ok (.aload_n 0, 1) := by decide +kernel
theorem dX5_transfer_1 : decode cX5_transfer 1 = .ok (.getfield 74, 3) := by decide +kernel
theorem dX5_transfer_4 : decode cX5_transfer 4 = .ok (.getfield 148, 3) := by decide +kernel
theorem dX5_transfer_7 : decode cX5_transfer 7 = .ok (.istore_n 3, 1) := by decide +kernel
theorem dX5_transfer_8 : decode cX5_transfer 8 = .ok (.aload_n 0, 1) := by decide +kernel
theorem dX5_transfer_9 : decode cX5_transfer 9 = .ok (.getfield 61, 3) := by decide +kernel
theorem dX5_transfer_12 : decode cX5_transfer 12 = .ok (.iconst 3, 1) := by decide +kernel
theorem dX5_transfer_13 : decode cX5_transfer 13 = .ok (.invokevirtual 121, 3) := by decide +kernel
theorem dX5_transfer_16 : decode cX5_transfer 16 = .ok (.aload_n 0, 1) := by decide +kernel
theorem dX5_transfer_17 : decode cX5_transfer 17 = .ok (.getfield 61, 3) := by decide +kernel
theorem dX5_transfer_20 : decode cX5_transfer 20 = .ok (.bipush 54, 2) := by decide +kernel
theorem dX5_transfer_22 : decode cX5_transfer 22 = .ok (.invokevirtual 121, 3) := by decide +kernel
theorem dX5_transfer_25 : decode cX5_transfer 25 = .ok (.aload_n 0, 1) := by decide +kernel
theorem dX5_transfer_26 : decode cX5_transfer 26 = .ok (.getfield 61, 3) := by decide +kernel
theorem dX5_transfer_29 : decode cX5_transfer 29 = .ok (.iload_n 1, 1) := by decide +kernel
theorem dX5_transfer_30 : decode cX5_transfer 30 = .ok (.i2b, 1) := by decide +kernel
theorem dX5_transfer_31 : decode cX5_transfer 31 = .ok (.invokevirtual 121, 3) := by decide +kernel
theorem dX5_transfer_34 : decode cX5_transfer 34 = .ok (.aload_n 0, 1) := by decide +kernel
theorem dX5_transfer_35 : decode cX5_transfer 35 = .ok (.getfield 61, 3) := by decide +kernel
theorem dX5_transfer_38 : decode cX5_transfer 38 = .ok (.iload_n 2, 1) := by decide +kernel
theorem dX5_transfer_39 : decode cX5_transfer 39 = .ok (.invokevirtual 121, 3) := by decide +kernel
theorem dX5_transfer_42 : decode cX5_transfer 42 = .ok (.aload_n 0, 1) := by decide +kernel
theorem dX5_transfer_43 : decode cX5_transfer 43 = .ok (.aload_n 0, 1) := by decide +kernel
theorem dX5_transfer_44 : decode cX5_transfer 44 = .ok (.getfield 61, 3) := by decide +kernel
theorem dX5_transfer_47 : decode cX5_transfer 47 = .ok (.invokevirtual 128, 3) := by decide +kernel
theorem dX5_transfer_50 : decode cX5_transfer 50 = .ok (.aload_n 0, 1) := by decide +kernel
theorem dX5_transfer_51 : decode cX5_transfer 51 = .ok (.getfield 51, 3) := by decide +kernel
theorem dX5_transfer_54 : decode cX5_transfer 54 = .ok (.ifCond .eq 9, 3) := by decide +kernel
theorem dX5_transfer_57 : decode cX5_transfer 57 = .ok (.aload_n 0, 1) := by decide +kernel
theorem dX5_transfer_58 : decode cX5_transfer 58 = .ok (.getfield 51, 3) := by decide +kernel
theorem dX5_transfer_61 : decode cX5_transfer 61 = .ok (.ineg, 1) := by decide +kernel
theorem dX5_transfer_62 : decode cX5_transfer 62 = .ok (.ireturn, 1) := by decide +kernel
theorem dX5_transfer_63 : decode cX5_transfer 63 = .ok (.aload_n 0, 1) := by decide +kernel
theorem dX5_transfer_64 : decode cX5_transfer 64 = .ok (.getfield 74, 3) := by decide +kernel
theorem dX5_transfer_67 : decode cX5_transfer 67 = .ok (.getfield 148, 3) := by decide +kernel
theorem dX5_transfer_70 : decode cX5_transfer 70 = .ok (.iload_n 3, 1) := by decide +kernel
theorem dX5_transfer_71 : decode cX5_transfer 71 = .ok (.if_icmp .ge 7, 3) := by decide +kernel
theorem dX5_transfer_74 : decode cX5_transfer 74 = .ok (.iconst 1, 1) := by decide +kernel
theorem dX5_transfer_75 : decode cX5_transfer 75 = .ok (.goto 4, 3) := by decide +kernel
theorem dX5_transfer_78 : decode cX5_transfer 78 = .ok (.iconst 2, 1) := by decide +kernel
theorem dX5_transfer_79 : decode cX5_transfer 79 = .ok (.ireturn, 1) := by decide +kernel
theorem dX5_tick_0 : decode cX5_tick 0 = .ok (.lload_n 1, 1) := by decide +kernel
theorem dX5_tick_1 : decode cX5_tick 1 = .ok (.aload_n 0, 1) := by decide +kernel
theorem dX5_tick_2 : decode cX5_tick 2 = .ok (.getfield 44, 3) := by decide +kernel
theorem dX5_tick_5 : decode cX5_tick 5 = .ok (.lcmp, 1) := by decide +kernel
theorem dX5_tick_6 : decode cX5_tick 6 = .ok (.ifCond .lt 11, 3) := by decide +kernel
theorem dX5_tick_9 : decode cX5_tick 9 = .ok (.lload_n 1, 1) := by decide +kernel
theorem dX5_tick_10 : decode cX5_tick 10 = .ok (.ldc2_w 151, 3) := by decide +kernel
theorem dX5_tick_13 : decode cX5_tick 13 = .ok (.lcmp, 1) := by decide +kernel
theorem dX5_tick_14 : decode cX5_tick 14 = .ok (.ifCond .le 6, 3) := by decide +kernel
theorem dX5_tick_17 : decode cX5_tick 17 = .ok (.bipush (-2), 2) := by decide +kernel
theorem dX5_tick_19 : decode cX5_tick 19 = .ok (.ireturn, 1) := by decide +kernel
theorem dX5_tick_20 : decode cX5_tick 20 = .ok (.aload_n 0, 1) := by decide +kernel
theorem dX5_tick_21 : decode cX5_tick 21 = .ok (.lload_n 1, 1) := by decide +kernel
theorem dX5_tick_22 : decode cX5_tick 22 = .ok (.putfield 44, 3) := by decide +kernel
theorem dX5_tick_25 : decode cX5_tick 25 = .ok (.iconst 0, 1) := by decide +kernel
theorem dX5_tick_26 : decode cX5_tick 26 = .ok (.istore_n 3, 1) := by decide +kernel
theorem dX5_tick_27 : decode cX5_tick 27 = .ok (.iload_n 3, 1) := by decide +kernel
theorem dX5_tick_28 : decode cX5_tick 28 = .ok (.aload_n 0, 1) := by decide +kernel
theorem dX5_tick_29 : decode cX5_tick 29 = .ok (.getfield 21, 3) := by decide +kernel
theorem dX5_tick_32 : decode cX5_tick 32 = .ok (.arraylength, 1) := by decide +kernel
theorem dX5_tick_33 : decode cX5_tick 33 = .ok (.if_icmp .ge 27, 3) := by decide +kernel
theorem dX5_tick_36 : decode cX5_tick 36 = .ok (.aload_n 0, 1) := by decide +kernel
theorem dX5_tick_37 : decode cX5_tick 37 = .ok (.getfield 21, 3) := by decide +kernel
theorem dX5_tick_40 : decode cX5_tick 40 = .ok (.iload_n 3, 1) := by decide +kernel
theorem dX5_tick_41 : decode cX5_tick 41 = .ok (.aaload, 1) := by decide +kernel
theorem dX5_tick_42 : decode cX5_tick 42 = .ok (.astore 4, 2) := by decide +kernel
theorem dX5_tick_44 : decode cX5_tick 44 = .ok (.aload 4, 2) := by decide +kernel
theorem dX5_tick_46 : decode cX5_tick 46 = .ok (.ifnull 8, 3) := by decide +kernel
theorem dX5_tick_49 : decode cX5_tick 49 = .ok (.aload 4, 2) := by decide +kernel
theorem dX5_tick_51 : decode cX5_tick 51 = .ok (.invokevirtual 153, 3) := by decide +kernel
theorem dX5_tick_54 : decode cX5_tick 54 = .ok (.iinc 3 1, 3) := by decide +kernel
theorem dX5_tick_57 : decode cX5_tick 57 = .ok (.goto (-30), 3) := by decide +kernel
theorem dX5_tick_60 : decode cX5_tick 60 = .ok (.aload_n 0, 1) := by decide +kernel
theorem dX5_tick_61 : decode cX5_tick 61 = .ok (.getfield 35, 3) := by decide +kernel
theorem dX5_tick_64 : decode cX5_tick 64 = .ok (.iconst 1, 1) := by decide +kernel
theorem dX5_tick_65 : decode cX5_tick 65 = .ok (.if_icmp .eq 16, 3) := by decide +kernel
theorem dX5_tick_68 : decode cX5_tick 68 = .ok (.lload_n 1, 1) := by decide +kernel
theorem dX5_tick_69 : decode cX5_tick 69 = .ok (.aload_n 0, 1) := by decide +kernel
theorem dX5_tick_70 : decode cX5_tick 70 = .ok (.getfield 48, 3) := by decide +kernel
theorem dX5_tick_73 : decode cX5_tick 73 = .ok (.lsub, 1) := by decide +kernel
theorem dX5_tick_74 : decode cX5_tick 74 = .ok (.ldc2_w 156, 3) := by decide +kernel
theorem dX5_tick_77 : decode cX5_tick 77 = .ok (.lcmp, 1) := by decide +kernel
theorem dX5_tick_78 : decode cX5_tick 78 = .ok (.ifCond .ge 5, 3) := by decide +kernel
theorem dX5_tick_81 : decode cX5_tick 81 = .ok (.iconst 0, 1) := by decide +kernel
theorem dX5_tick_82 : decode cX5_tick 82 = .ok (.ireturn, 1) := by decide +kernel
theorem dX5_tick_83 : decode cX5_tick 83 = .ok (.aload_n 0, 1) := by decide +kernel
theorem dX5_tick_84 : decode cX5_tick 84 = .ok (.iconst 1, 1) := by decide +kernel
theorem dX5_tick_85 : decode cX5_tick 85 = .ok (.invokevirtual 158, 3) := by decide +kernel
theorem dX5_tick_88 : decode cX5_tick 88 = .ok (.iconst 1, 1) := by decide +kernel
theorem dX5_tick_89 : decode cX5_tick 89 = .ok (.ireturn, 1) := by decide +kernel
theorem dX5_value_0 : decode cX5_value 0 = .ok (.aload_n 0, 1) := by decide +kernel
theorem dX5_value_1 : decode cX5_value 1 = .ok (.iload_n 1, 1) := by decide +kernel
theorem dX5_value_2 : decode cX5_value 2 = .ok (.invokevirtual 83, 3) := by decide +kernel
theorem dX5_value_5 : decode cX5_value 5 = .ok (.astore_n 2, 1) := by decide +kernel
theorem dX5_value_6 : decode cX5_value 6 = .ok (.aload_n 2, 1) := by decide +kernel
theorem dX5_value_7 : decode cX5_value 7 = .ok (.ifnonnull 7, 3) := by decide +kernel
theorem dX5_value_10 : decode cX5_value 10 = .ok (.lconst 0, 1) := by decide +kernel
theorem dX5_value_11 : decode cX5_value 11 = .ok (.goto 7, 3) := by decide +kernel
theorem dX5_value_14 : decode cX5_value 14 = .ok (.aload_n 2, 1) := by decide +kernel
theorem dX5_value_15 : decode cX5_value 15 = .ok (.invokevirtual 162, 3) := by decide +kernel
theorem dX5_value_18 : decode cX5_value 18 = .ok (.lreturn, 1) := by decide +kernel
theorem dX5_isWithin_0 : decode cX5_isWithin 0 = .ok (.iload_n 0, 1) := by decide +kernel
theorem dX5_isWithin_1 : decode cX5_isWithin 1 = .ok (.iload_n 1, 1) := by decide +kernel
theorem dX5_isWithin_2 : decode cX5_isWithin 2 = .ok (.if_icmp .lt 12, 3) := by decide +kernel
theorem dX5_isWithin_5 : decode cX5_isWithin 5 = .ok (.iload_n 0, 1) := by decide +kernel
theorem dX5_isWithin_6 : decode cX5_isWithin 6 = .ok (.iload_n 2, 1) := by decide +kernel
theorem dX5_isWithin_7 : decode cX5_isWithin 7 = .ok (.if_icmp .gt 7, 3) := by decide +kernel
theorem dX5_isWithin_10 : decode cX5_isWithin 10 = .ok (.iconst 1, 1) := by decide +kernel
theorem dX5_isWithin_11 : decode cX5_isWithin 11 = .ok (.goto 4, 3) := by decide +kernel
theorem dX5_isWithin_14 : decode cX5_isWithin 14 = .ok (.iconst 0, 1) := by decide +kernel
theorem dX5_isWithin_15 : decode cX5_isWithin 15 = .ok (.ireturn, 1) := by decide +kernel
theorem dX5_findIdentifier_0 : decode cX5_findIdentifier 0 = .ok (.iconst 0, 1) := by decide +kernel
theorem dX5_findIdentifier_1 : decode cX5_findIdentifier 1 = .ok (.istore_n 2, 1) := by decide +kernel
theorem dX5_findIdentifier_2 : decode cX5_findIdentifier 2 = .ok (.iload_n 2, 1) := by decide +kernel
theorem dX5_findIdentifier_3 : decode cX5_findIdentifier 3 = .ok (.aload_n 0, 1) := by decide +kernel
theorem dX5_findIdentifier_4 : decode cX5_findIdentifier 4 = .ok (.getfield 11, 3) := by decide +kernel
theorem dX5_findIdentifier_7 : decode cX5_findIdentifier 7 = .ok (.arraylength, 1) := by decide +kernel
theorem dX5_findIdentifier_8 : decode cX5_findIdentifier 8 = .ok (.if_icmp .ge 30, 3) := by decide +kernel
theorem dX5_findIdentifier_11 : decode cX5_findIdentifier 11 = .ok (.aload_n 0, 1) := by decide +kernel
theorem dX5_findIdentifier_12 : decode cX5_findIdentifier 12 = .ok (.getfield 11, 3) := by decide +kernel
theorem dX5_findIdentifier_15 : decode cX5_findIdentifier 15 = .ok (.iload_n 2, 1) := by decide +kernel
theorem dX5_findIdentifier_16 : decode cX5_findIdentifier 16 = .ok (.aaload, 1) := by decide +kernel
theorem dX5_findIdentifier_17 : decode cX5_findIdentifier 17 = .ok (.astore_n 3, 1) := by decide +kernel
theorem dX5_findIdentifier_18 : decode cX5_findIdentifier 18 = .ok (.aload_n 3, 1) := by decide +kernel
theorem dX5_findIdentifier_19 : decode cX5_findIdentifier 19 = .ok (.ifnull 13, 3) := by decide +kernel
theorem dX5_findIdentifier_22 : decode cX5_findIdentifier 22 = .ok (.aload_n 3, 1) := by decide +kernel
theorem dX5_findIdentifier_23 : decode cX5_findIdentifier 23 = .ok (.getfield 166, 3) := by decide +kernel
theorem dX5_findIdentifier_26 : decode cX5_findIdentifier 26 = .ok (.iload_n 1, 1) := by decide +kernel
theorem dX5_findIdentifier_27 : decode cX5_findIdentifier 27 = .ok (.if_icmp .ne 5, 3) := by decide +kernel
theorem dX5_findIdentifier_30 : decode cX5_findIdentifier 30 = .ok (.aload_n 3, 1) := by decide +kernel
theorem dX5_findIdentifier_31 : decode cX5_findIdentifier 31 = .ok (.areturn, 1) := by decide +kernel
theorem dX5_findIdentifier_32 : decode cX5_findIdentifier 32 = .ok (.iinc 2 1, 3) := by decide +kernel
theorem dX5_findIdentifier_35 : decode cX5_findIdentifier 35 = .ok (.goto (-33), 3) := by decide +kernel
theorem dX5_findIdentifier_38 : decode cX5_findIdentifier 38 = .ok (.aconst_null, 1) := by decide +kernel
theorem dX5_findIdentifier_39 : decode cX5_findIdentifier 39 = .ok (.areturn, 1) := by decide +kernel
theorem dX5_hasRoomForIdentifier_0 : decode cX5_hasRoomForIdentifier 0 = .ok (.aload_n 0, 1) := by decide +kernel
theorem dX5_hasRoomForIdentifier_1 : decode cX5_hasRoomForIdentifier 1 = .ok (.getfield 15, 3) := by decide +kernel
theorem dX5_hasRoomForIdentifier_4 : decode cX5_hasRoomForIdentifier 4 = .ok (.aload_n 0, 1) := by decide +kernel
theorem dX5_hasRoomForIdentifier_5 : decode cX5_hasRoomForIdentifier 5 = .ok (.getfield 11, 3) := by decide +kernel
theorem dX5_hasRoomForIdentifier_8 : decode cX5_hasRoomForIdentifier 8 = .ok (.arraylength, 1) := by decide +kernel
theorem dX5_hasRoomForIdentifier_9 : decode cX5_hasRoomForIdentifier 9 = .ok (.if_icmp .ge 7, 3) := by decide +kernel
theorem dX5_hasRoomForIdentifier_12 : decode cX5_hasRoomForIdentifier 12 = .ok (.iconst 1, 1) := by decide +kernel
theorem dX5_hasRoomForIdentifier_13 : decode cX5_hasRoomForIdentifier 13 = .ok (.goto 4, 3) := by decide +kernel
theorem dX5_hasRoomForIdentifier_16 : decode cX5_hasRoomForIdentifier 16 = .ok (.iconst 0, 1) := by decide +kernel
theorem dX5_hasRoomForIdentifier_17 : decode cX5_hasRoomForIdentifier 17 = .ok (.ireturn, 1) := by decide +kernel
theorem dX5_addIdentifier_0 : decode cX5_addIdentifier 0 = .ok (.aload_n 0, 1) := by decide +kernel
theorem dX5_addIdentifier_1 : decode cX5_addIdentifier 1 = .ok (.invokevirtual 87, 3) := by decide +kernel
theorem dX5_addIdentifier_4 : decode cX5_addIdentifier 4 = .ok (.ifCond .eq 23, 3) := by decide +kernel
theorem dX5_addIdentifier_7 : decode cX5_addIdentifier 7 = .ok (.aload_n 0, 1) := by decide +kernel
theorem dX5_addIdentifier_8 : decode cX5_addIdentifier 8 = .ok (.getfield 11, 3) := by decide +kernel
theorem dX5_addIdentifier_11 : decode cX5_addIdentifier 11 = .ok (.aload_n 0, 1) := by decide +kernel
theorem dX5_addIdentifier_12 : decode cX5_addIdentifier 12 = .ok (.getfield 15, 3) := by decide +kernel
theorem dX5_addIdentifier_15 : decode cX5_addIdentifier 15 = .ok (.aload_n 1, 1) := by decide +kernel
theorem dX5_addIdentifier_16 : decode cX5_addIdentifier 16 = .ok (.aastore, 1) := by decide +kernel
theorem dX5_addIdentifier_17 : decode cX5_addIdentifier 17 = .ok (.aload_n 0, 1) := by decide +kernel
theorem dX5_addIdentifier_18 : decode cX5_addIdentifier 18 = .ok (.dup, 1) := by decide +kernel
theorem dX5_addIdentifier_19 : decode cX5_addIdentifier 19 = .ok (.getfield 15, 3) := by decide +kernel
theorem dX5_addIdentifier_22 : decode cX5_addIdentifier 22 = .ok (.iconst 1, 1) := by decide +kernel
theorem dX5_addIdentifier_23 : decode cX5_addIdentifier 23 = .ok (.iadd, 1) := by decide +kernel
theorem dX5_addIdentifier_24 : decode cX5_addIdentifier 24 = .ok (.putfield 15, 3) := by decide +kernel
theorem dX5_addIdentifier_27 : decode cX5_addIdentifier 27 = .ok (.return_, 1) := by decide +kernel
theorem dX5_findRoutine_0 : decode cX5_findRoutine 0 = .ok (.iconst 0, 1) := by decide +kernel
theorem dX5_findRoutine_1 : decode cX5_findRoutine 1 = .ok (.istore_n 2, 1) := by decide +kernel
theorem dX5_findRoutine_2 : decode cX5_findRoutine 2 = .ok (.iload_n 2, 1) := by decide +kernel
theorem dX5_findRoutine_3 : decode cX5_findRoutine 3 = .ok (.aload_n 0, 1) := by decide +kernel
theorem dX5_findRoutine_4 : decode cX5_findRoutine 4 = .ok (.getfield 21, 3) := by decide +kernel
theorem dX5_findRoutine_7 : decode cX5_findRoutine 7 = .ok (.arraylength, 1) := by decide +kernel
theorem dX5_findRoutine_8 : decode cX5_findRoutine 8 = .ok (.if_icmp .ge 30, 3) := by decide +kernel
theorem dX5_findRoutine_11 : decode cX5_findRoutine 11 = .ok (.aload_n 0, 1) := by decide +kernel
theorem dX5_findRoutine_12 : decode cX5_findRoutine 12 = .ok (.getfield 21, 3) := by decide +kernel
theorem dX5_findRoutine_15 : decode cX5_findRoutine 15 = .ok (.iload_n 2, 1) := by decide +kernel
theorem dX5_findRoutine_16 : decode cX5_findRoutine 16 = .ok (.aaload, 1) := by decide +kernel
theorem dX5_findRoutine_17 : decode cX5_findRoutine 17 = .ok (.astore_n 3, 1) := by decide +kernel
theorem dX5_findRoutine_18 : decode cX5_findRoutine 18 = .ok (.aload_n 3, 1) := by decide +kernel
theorem dX5_findRoutine_19 : decode cX5_findRoutine 19 = .ok (.ifnull 13, 3) := by decide +kernel
theorem dX5_findRoutine_22 : decode cX5_findRoutine 22 = .ok (.aload_n 3, 1) := by decide +kernel
theorem dX5_findRoutine_23 : decode cX5_findRoutine 23 = .ok (.getfield 169, 3) := by decide +kernel
theorem dX5_findRoutine_26 : decode cX5_findRoutine 26 = .ok (.iload_n 1, 1) := by decide +kernel
theorem dX5_findRoutine_27 : decode cX5_findRoutine 27 = .ok (.if_icmp .ne 5, 3) := by decide +kernel
theorem dX5_findRoutine_30 : decode cX5_findRoutine 30 = .ok (.aload_n 3, 1) := by decide +kernel
theorem dX5_findRoutine_31 : decode cX5_findRoutine 31 = .ok (.areturn, 1) := by decide +kernel
theorem dX5_findRoutine_32 : decode cX5_findRoutine 32 = .ok (.iinc 2 1, 3) := by decide +kernel
theorem dX5_findRoutine_35 : decode cX5_findRoutine 35 = .ok (.goto (-33), 3) := by decide +kernel
theorem dX5_findRoutine_38 : decode cX5_findRoutine 38 = .ok (.aconst_null, 1) := by decide +kernel
theorem dX5_findRoutine_39 : decode cX5_findRoutine 39 = .ok (.areturn, 1) := by decide +kernel
theorem dX5_findHere_0 : decode cX5_findHere 0 = .ok (.aload_n 0, 1) := by decide +kernel
theorem dX5_findHere_1 : decode cX5_findHere 1 = .ok (.iload_n 1, 1) := by decide +kernel
theorem dX5_findHere_2 : decode cX5_findHere 2 = .ok (.invokevirtual 83, 3) := by decide +kernel
theorem dX5_findHere_5 : decode cX5_findHere 5 = .ok (.astore_n 2, 1) := by decide +kernel
theorem dX5_findHere_6 : decode cX5_findHere 6 = .ok (.aload_n 2, 1) := by decide +kernel
theorem dX5_findHere_7 : decode cX5_findHere 7 = .ok (.ifnull 14, 3) := by decide +kernel
theorem dX5_findHere_10 : decode cX5_findHere 10 = .ok (.aload_n 2, 1) := by decide +kernel
theorem dX5_findHere_11 : decode cX5_findHere 11 = .ok (.getfield 170, 3) := by decide +kernel
theorem dX5_findHere_14 : decode cX5_findHere 14 = .ok (.aload_n 0, 1) := by decide +kernel
theorem dX5_findHere_15 : decode cX5_findHere 15 = .ok (.getfield 35, 3) := by decide +kernel
theorem dX5_findHere_18 : decode cX5_findHere 18 = .ok (.if_icmp .le 7, 3) := by decide +kernel
theorem dX5_findHere_21 : decode cX5_findHere 21 = .ok (.aconst_null, 1) := by decide +kernel
theorem dX5_findHere_22 : decode cX5_findHere 22 = .ok (.goto 4, 3) := by decide +kernel
theorem dX5_findHere_25 : decode cX5_findHere 25 = .ok (.aload_n 2, 1) := by decide +kernel
theorem dX5_findHere_26 : decode cX5_findHere 26 = .ok (.areturn, 1) := by decide +kernel
theorem dX5_endSession_0 : decode cX5_endSession 0 = .ok (.iconst 0, 1) := by decide +kernel
theorem dX5_endSession_1 : decode cX5_endSession 1 = .ok (.istore_n 2, 1) := by decide +kernel
theorem dX5_endSession_2 : decode cX5_endSession 2 = .ok (.iload_n 2, 1) := by decide +kernel
theorem dX5_endSession_3 : decode cX5_endSession 3 = .ok (.aload_n 0, 1) := by decide +kernel
theorem dX5_endSession_4 : decode cX5_endSession 4 = .ok (.getfield 11, 3) := by decide +kernel
theorem dX5_endSession_7 : decode cX5_endSession 7 = .ok (.arraylength, 1) := by decide +kernel
theorem dX5_endSession_8 : decode cX5_endSession 8 = .ok (.if_icmp .ge 24, 3) := by decide +kernel
theorem dX5_endSession_11 : decode cX5_endSession 11 = .ok (.aload_n 0, 1) := by decide +kernel
theorem dX5_endSession_12 : decode cX5_endSession 12 = .ok (.getfield 11, 3) := by decide +kernel
theorem dX5_endSession_15 : decode cX5_endSession 15 = .ok (.iload_n 2, 1) := by decide +kernel
theorem dX5_endSession_16 : decode cX5_endSession 16 = .ok (.aaload, 1) := by decide +kernel
theorem dX5_endSession_17 : decode cX5_endSession 17 = .ok (.astore_n 3, 1) := by decide +kernel
theorem dX5_endSession_18 : decode cX5_endSession 18 = .ok (.aload_n 3, 1) := by decide +kernel
theorem dX5_endSession_19 : decode cX5_endSession 19 = .ok (.ifnull 7, 3) := by decide +kernel
theorem dX5_endSession_22 : decode cX5_endSession 22 = .ok (.aload_n 3, 1) := by decide +kernel
theorem dX5_endSession_23 : decode cX5_endSession 23 = .ok (.invokevirtual 171, 3) := by decide +kernel
theorem dX5_endSession_26 : decode cX5_endSession 26 = .ok (.iinc 2 1, 3) := by decide +kernel
theorem dX5_endSession_29 : decode cX5_endSession 29 = .ok (.goto (-27), 3) := by decide +kernel
theorem dX5_endSession_32 : decode cX5_endSession 32 = .ok (.aload_n 0, 1) := by decide +kernel
theorem dX5_endSession_33 : decode cX5_endSession 33 = .ok (.getfield 74, 3) := by decide +kernel
theorem dX5_endSession_36 : decode cX5_endSession 36 = .ok (.invokevirtual 174, 3) := by decide +kernel
theorem dX5_endSession_39 : decode cX5_endSession 39 = .ok (.aload_n 0, 1) := by decide +kernel
theorem dX5_endSession_40 : decode cX5_endSession 40 = .ok (.iconst 0, 1) := by decide +kernel
theorem dX5_endSession_41 : decode cX5_endSession 41 = .ok (.putfield 38, 3) := by decide +kernel
theorem dX5_endSession_44 : decode cX5_endSession 44 = .ok (.aload_n 0, 1) := by decide +kernel
theorem dX5_endSession_45 : decode cX5_endSession 45 = .ok (.iload_n 1, 1) := by decide +kernel
theorem dX5_endSession_46 : decode cX5_endSession 46 = .ok (.putfield 35, 3) := by decide +kernel
theorem dX5_endSession_49 : decode cX5_endSession 49 = .ok (.return_, 1) := by decide +kernel
theorem dX5_conclude_0 : decode cX5_conclude 0 = .ok (.aload_n 0, 1) := by decide +kernel
theorem dX5_conclude_1 : decode cX5_conclude 1 = .ok (.getfield 67, 3) := by decide +kernel
theorem dX5_conclude_4 : decode cX5_conclude 4 = .ok (.invokevirtual 177, 3) := by decide +kernel
theorem dX5_conclude_7 : decode cX5_conclude 7 = .ok (.aload_n 0, 1) := by decide +kernel
theorem dX5_conclude_8 : decode cX5_conclude 8 = .ok (.aload_n 0, 1) := by decide +kernel
theorem dX5_conclude_9 : decode cX5_conclude 9 = .ok (.aload_n 1, 1) := by decide +kernel
theorem dX5_conclude_10 : decode cX5_conclude 10 = .ok (.invokevirtual 180, 3) := by decide +kernel
theorem dX5_conclude_13 : decode cX5_conclude 13 = .ok (.putfield 51, 3) := by decide +kernel
theorem dX5_conclude_16 : decode cX5_conclude 16 = .ok (.aload_n 0, 1) := by decide +kernel
theorem dX5_conclude_17 : decode cX5_conclude 17 = .ok (.aload_n 0, 1) := by decide +kernel
theorem dX5_conclude_18 : decode cX5_conclude 18 = .ok (.getfield 44, 3) := by decide +kernel
theorem dX5_conclude_21 : decode cX5_conclude 21 = .ok (.putfield 48, 3) := by decide +kernel
theorem dX5_conclude_24 : decode cX5_conclude 24 = .ok (.aload_n 0, 1) := by decide +kernel
theorem dX5_conclude_25 : decode cX5_conclude 25 = .ok (.getfield 51, 3) := by decide +kernel
theorem dX5_conclude_28 : decode cX5_conclude 28 = .ok (.ifCond .eq 54, 3) := by decide +kernel
theorem dX5_conclude_31 : decode cX5_conclude 31 = .ok (.aload_n 1, 1) := by decide +kernel
theorem dX5_conclude_32 : decode cX5_conclude 32 = .ok (.getfield 184, 3) := by decide +kernel
theorem dX5_conclude_35 : decode cX5_conclude 35 = .ok (.ifCond .eq 13, 3) := by decide +kernel
theorem dX5_conclude_38 : decode cX5_conclude 38 = .ok (.aload_n 0, 1) := by decide +kernel
theorem dX5_conclude_39 : decode cX5_conclude 39 = .ok (.getfield 51, 3) := by decide +kernel
theorem dX5_conclude_42 : decode cX5_conclude 42 = .ok (.invokestatic 187, 3) := by decide +kernel
theorem dX5_conclude_45 : decode cX5_conclude 45 = .ok (.ifCond .ne 51, 3) := by decide +kernel
theorem dX5_conclude_48 : decode cX5_conclude 48 = .ok (.aload_n 0, 1) := by decide +kernel
theorem dX5_conclude_49 : decode cX5_conclude 49 = .ok (.getfield 67, 3) := by decide +kernel
theorem dX5_conclude_52 : decode cX5_conclude 52 = .ok (.bipush 127, 2) := by decide +kernel
theorem dX5_conclude_54 : decode cX5_conclude 54 = .ok (.invokevirtual 190, 3) := by decide +kernel
theorem dX5_conclude_57 : decode cX5_conclude 57 = .ok (.aload_n 0, 1) := by decide +kernel
theorem dX5_conclude_58 : decode cX5_conclude 58 = .ok (.getfield 67, 3) := by decide +kernel
theorem dX5_conclude_61 : decode cX5_conclude 61 = .ok (.aload_n 1, 1) := by decide +kernel
theorem dX5_conclude_62 : decode cX5_conclude 62 = .ok (.invokevirtual 193, 3) := by decide +kernel
theorem dX5_conclude_65 : decode cX5_conclude 65 = .ok (.invokevirtual 190, 3) := by decide +kernel
theorem dX5_conclude_68 : decode cX5_conclude 68 = .ok (.aload_n 0, 1) := by decide +kernel
theorem dX5_conclude_69 : decode cX5_conclude 69 = .ok (.getfield 67, 3) := by decide +kernel
theorem dX5_conclude_72 : decode cX5_conclude 72 = .ok (.aload_n 0, 1) := by decide +kernel
theorem dX5_conclude_73 : decode cX5_conclude 73 = .ok (.getfield 51, 3) := by decide +kernel
theorem dX5_conclude_76 : decode cX5_conclude 76 = .ok (.invokevirtual 190, 3) := by decide +kernel
theorem dX5_conclude_79 : decode cX5_conclude 79 = .ok (.goto 17, 3) := by decide +kernel
theorem dX5_conclude_82 : decode cX5_conclude 82 = .ok (.aload_n 1, 1) := by decide +kernel
theorem dX5_conclude_83 : decode cX5_conclude 83 = .ok (.invokevirtual 197, 3) := by decide +kernel
theorem dX5_conclude_86 : decode cX5_conclude 86 = .ok (.ifCond .eq 10, 3) := by decide +kernel
theorem dX5_conclude_89 : decode cX5_conclude 89 = .ok (.aload_n 0, 1) := by decide +kernel
theorem dX5_conclude_90 : decode cX5_conclude 90 = .ok (.getfield 67, 3) := by decide +kernel
theorem dX5_conclude_93 : decode cX5_conclude 93 = .ok (.invokevirtual 177, 3) := by decide +kernel
theorem dX5_conclude_96 : decode cX5_conclude 96 = .ok (.aload_n 1, 1) := by decide +kernel
theorem dX5_conclude_97 : decode cX5_conclude 97 = .ok (.invokevirtual 200, 3) := by decide +kernel
theorem dX5_conclude_100 : decode cX5_conclude 100 = .ok (.return_, 1) := by decide +kernel
theorem dX5_isKeptFromAll_0 : decode cX5_isKeptFromAll 0 = .ok (.iload_n 0, 1) := by decide +kernel
theorem dX5_isKeptFromAll_1 : decode cX5_isKeptFromAll 1 = .ok (.bipush 17, 2) := by decide +kernel
theorem dX5_isKeptFromAll_3 : decode cX5_isKeptFromAll 3 = .ok (.if_icmp .eq 21, 3) := by decide +kernel
theorem dX5_isKeptFromAll_6 : decode cX5_isKeptFromAll 6 = .ok (.iload_n 0, 1) := by decide +kernel
theorem dX5_isKeptFromAll_7 : decode cX5_isKeptFromAll 7 = .ok (.bipush 18, 2) := by decide +kernel
theorem dX5_isKeptFromAll_9 : decode cX5_isKeptFromAll 9 = .ok (.if_icmp .eq 15, 3) := by decide +kernel
theorem dX5_isKeptFromAll_12 : decode cX5_isKeptFromAll 12 = .ok (.iload_n 0, 1) := by decide +kernel
theorem dX5_isKeptFromAll_13 : decode cX5_isKeptFromAll 13 = .ok (.bipush 49, 2) := by decide +kernel
theorem dX5_isKeptFromAll_15 : decode cX5_isKeptFromAll 15 = .ok (.if_icmp .eq 9, 3) := by decide +kernel
theorem dX5_isKeptFromAll_18 : decode cX5_isKeptFromAll 18 = .ok (.iload_n 0, 1) := by decide +kernel
theorem dX5_isKeptFromAll_19 : decode cX5_isKeptFromAll 19 = .ok (.bipush 127, 2) := by decide +kernel
theorem dX5_isKeptFromAll_21 : decode cX5_isKeptFromAll 21 = .ok (.if_icmp .ne 7, 3) := by decide +kernel
theorem dX5_isKeptFromAll_24 : decode cX5_isKeptFromAll 24 = .ok (.iconst 1, 1) := by decide +kernel
theorem dX5_isKeptFromAll_25 : decode cX5_isKeptFromAll 25 = .ok (.goto 4, 3) := by decide +kernel
theorem dX5_isKeptFromAll_28 : decode cX5_isKeptFromAll 28 = .ok (.iconst 0, 1) := by decide +kernel
theorem dX5_isKeptFromAll_29 : decode cX5_isKeptFromAll 29 = .ok (.ireturn, 1) := by decide +kernel
theorem dX5_serve_0 : decode cX5_serve 0 = .ok (.aload_n 1, 1) := by decide +kernel
theorem dX5_serve_1 : decode cX5_serve 1 = .ok (.invokevirtual 203, 3) := by decide +kernel
theorem dX5_serve_4 : decode cX5_serve 4 = .ok (.ifCond .eq 6, 3) := by decide +kernel
theorem dX5_serve_7 : decode cX5_serve 7 = .ok (.bipush 19, 2) := by decide +kernel
theorem dX5_serve_9 : decode cX5_serve 9 = .ok (.ireturn, 1) := by decide +kernel
theorem dX5_serve_10 : decode cX5_serve 10 = .ok (.aload_n 1, 1) := by decide +kernel
theorem dX5_serve_11 : decode cX5_serve 11 = .ok (.invokevirtual 193, 3) := by decide +kernel
theorem dX5_serve_14 : decode cX5_serve 14 = .ok (.lookupswitch 150 #[(16, 90), (17, 96), (34, 102), (46, 108), (47, 114), (49, 120), (52, 126), (54, 132), (55, 138), (62, 144)], 90) := by decide +kernel
theorem dX5_serve_104 : decode cX5_serve 104 = .ok (.aload_n 0, 1) := by decide +kernel
theorem dX5_serve_105 : decode cX5_serve 105 = .ok (.aload_n 1, 1) := by decide +kernel
theorem dX5_serve_106 : decode cX5_serve 106 = .ok (.invokevirtual 206, 3) := by decide +kernel
theorem dX5_serve_109 : decode cX5_serve 109 = .ok (.ireturn, 1) := by decide +kernel
theorem dX5_serve_110 : decode cX5_serve 110 = .ok (.aload_n 0, 1) := by decide +kernel
theorem dX5_serve_111 : decode cX5_serve 111 = .ok (.aload_n 1, 1) := by decide +kernel
theorem dX5_serve_112 : decode cX5_serve 112 = .ok (.invokevirtual 209, 3) := by decide +kernel
theorem dX5_serve_115 : decode cX5_serve 115 = .ok (.ireturn, 1) := by decide +kernel
theorem dX5_serve_116 : decode cX5_serve 116 = .ok (.aload_n 0, 1) := by decide +kernel
theorem dX5_serve_117 : decode cX5_serve 117 = .ok (.aload_n 1, 1) := by decide +kernel
theorem dX5_serve_118 : decode cX5_serve 118 = .ok (.invokevirtual 212, 3) := by decide +kernel
theorem dX5_serve_121 : decode cX5_serve 121 = .ok (.ireturn, 1) := by decide +kernel
theorem dX5_serve_122 : decode cX5_serve 122 = .ok (.aload_n 0, 1) := by decide +kernel
theorem dX5_serve_123 : decode cX5_serve 123 = .ok (.aload_n 1, 1) := by decide +kernel
theorem dX5_serve_124 : decode cX5_serve 124 = .ok (.invokevirtual 215, 3) := by decide +kernel
theorem dX5_serve_127 : decode cX5_serve 127 = .ok (.ireturn, 1) := by decide +kernel
theorem dX5_serve_128 : decode cX5_serve 128 = .ok (.aload_n 0, 1) := by decide +kernel
theorem dX5_serve_129 : decode cX5_serve 129 = .ok (.aload_n 1, 1) := by decide +kernel
theorem dX5_serve_130 : decode cX5_serve 130 = .ok (.invokevirtual 218, 3) := by decide +kernel
theorem dX5_serve_133 : decode cX5_serve 133 = .ok (.ireturn, 1) := by decide +kernel
theorem dX5_serve_134 : decode cX5_serve 134 = .ok (.aload_n 0, 1) := by decide +kernel
theorem dX5_serve_135 : decode cX5_serve 135 = .ok (.aload_n 1, 1) := by decide +kernel
theorem dX5_serve_136 : decode cX5_serve 136 = .ok (.invokevirtual 221, 3) := by decide +kernel
theorem dX5_serve_139 : decode cX5_serve 139 = .ok (.ireturn, 1) := by decide +kernel
theorem dX5_serve_140 : decode cX5_serve 140 = .ok (.aload_n 0, 1) := by decide +kernel
theorem dX5_serve_141 : decode cX5_serve 141 = .ok (.aload_n 1, 1) := by decide +kernel
theorem dX5_serve_142 : decode cX5_serve 142 = .ok (.invokevirtual 224, 3) := by decide +kernel
theorem dX5_serve_145 : decode cX5_serve 145 = .ok (.ireturn, 1) := by decide +kernel
theorem dX5_serve_146 : decode cX5_serve 146 = .ok (.aload_n 0, 1) := by decide +kernel
theorem dX5_serve_147 : decode cX5_serve 147 = .ok (.aload_n 1, 1) := by decide +kernel
theorem dX5_serve_148 : decode cX5_serve 148 = .ok (.invokevirtual 227, 3) := by decide +kernel
theorem dX5_serve_151 : decode cX5_serve 151 = .ok (.ireturn, 1) := by decide +kernel
theorem dX5_serve_152 : decode cX5_serve 152 = .ok (.aload_n 0, 1) := by decide +kernel
theorem dX5_serve_153 : decode cX5_serve 153 = .ok (.aload_n 1, 1) := by decide +kernel
theorem dX5_serve_154 : decode cX5_serve 154 = .ok (.invokevirtual 230, 3) := by decide +kernel
theorem dX5_serve_157 : decode cX5_serve 157 = .ok (.ireturn, 1) := by decide +kernel
theorem dX5_serve_158 : decode cX5_serve 158 = .ok (.aload_n 0, 1) := by decide +kernel
theorem dX5_serve_159 : decode cX5_serve 159 = .ok (.aload_n 1, 1) := by decide +kernel
theorem dX5_serve_160 : decode cX5_serve 160 = .ok (.invokevirtual 233, 3) := by decide +kernel
theorem dX5_serve_163 : decode cX5_serve 163 = .ok (.ireturn, 1) := by decide +kernel
theorem dX5_serve_164 : decode cX5_serve 164 = .ok (.bipush 17, 2) := by decide +kernel
theorem dX5_serve_166 : decode cX5_serve 166 = .ok (.ireturn, 1) := by decide +kernel
theorem dX5_changeSession_0 : decode cX5_changeSession 0 = .ok (.aload_n 1, 1) := by decide +kernel
theorem dX5_changeSession_1 : decode cX5_changeSession 1 = .ok (.invokevirtual 236, 3) := by decide +kernel
theorem dX5_changeSession_4 : decode cX5_changeSession 4 = .ok (.iconst 1, 1) := by decide +kernel
theorem dX5_changeSession_5 : decode cX5_changeSession 5 = .ok (.if_icmp .eq 6, 3) := by decide +kernel
theorem dX5_changeSession_8 : decode cX5_changeSession 8 = .ok (.bipush 19, 2) := by decide +kernel
theorem dX5_changeSession_10 : decode cX5_changeSession 10 = .ok (.ireturn, 1) := by decide +kernel
theorem dX5_changeSession_11 : decode cX5_changeSession 11 = .ok (.aload_n 1, 1) := by decide +kernel
theorem dX5_changeSession_12 : decode cX5_changeSession 12 = .ok (.invokevirtual 239, 3) := by decide +kernel
theorem dX5_changeSession_15 : decode cX5_changeSession 15 = .ok (.istore_n 2, 1) := by decide +kernel
theorem dX5_changeSession_16 : decode cX5_changeSession 16 = .ok (.iload_n 2, 1) := by decide +kernel
theorem dX5_changeSession_17 : decode cX5_changeSession 17 = .ok (.iconst 1, 1) := by decide +kernel
theorem dX5_changeSession_18 : decode cX5_changeSession 18 = .ok (.iconst 3, 1) := by decide +kernel
theorem dX5_changeSession_19 : decode cX5_changeSession 19 = .ok (.invokestatic 79, 3) := by decide +kernel
theorem dX5_changeSession_22 : decode cX5_changeSession 22 = .ok (.ifCond .ne 6, 3) := by decide +kernel
theorem dX5_changeSession_25 : decode cX5_changeSession 25 = .ok (.bipush 18, 2) := by decide +kernel
theorem dX5_changeSession_27 : decode cX5_changeSession 27 = .ok (.ireturn, 1) := by decide +kernel
theorem dX5_changeSession_28 : decode cX5_changeSession 28 = .ok (.iload_n 2, 1) := by decide +kernel
theorem dX5_changeSession_29 : decode cX5_changeSession 29 = .ok (.iconst 3, 1) := by decide +kernel
theorem dX5_changeSession_30 : decode cX5_changeSession 30 = .ok (.if_icmp .ne 13, 3) := by decide +kernel
theorem dX5_changeSession_33 : decode cX5_changeSession 33 = .ok (.aload_n 0, 1) := by decide +kernel
theorem dX5_changeSession_34 : decode cX5_changeSession 34 = .ok (.getfield 28, 3) := by decide +kernel
theorem dX5_changeSession_37 : decode cX5_changeSession 37 = .ok (.ifCond .ne 6, 3) := by decide +kernel
theorem dX5_changeSession_40 : decode cX5_changeSession 40 = .ok (.bipush 34, 2) := by decide +kernel
theorem dX5_changeSession_42 : decode cX5_changeSession 42 = .ok (.ireturn, 1) := by decide +kernel
theorem dX5_changeSession_43 : decode cX5_changeSession 43 = .ok (.aload_n 0, 1) := by decide +kernel
theorem dX5_changeSession_44 : decode cX5_changeSession 44 = .ok (.iload_n 2, 1) := by decide +kernel
theorem dX5_changeSession_45 : decode cX5_changeSession 45 = .ok (.invokevirtual 158, 3) := by decide +kernel
theorem dX5_changeSession_48 : decode cX5_changeSession 48 = .ok (.aload_n 0, 1) := by decide +kernel
theorem dX5_changeSession_49 : decode cX5_changeSession 49 = .ok (.aload_n 1, 1) := by decide +kernel
theorem dX5_changeSession_50 : decode cX5_changeSession 50 = .ok (.invokevirtual 242, 3) := by decide +kernel
theorem dX5_changeSession_53 : decode cX5_changeSession 53 = .ok (.aload_n 0, 1) := by decide +kernel
theorem dX5_changeSession_54 : decode cX5_changeSession 54 = .ok (.getfield 67, 3) := by decide +kernel
theorem dX5_changeSession_57 : decode cX5_changeSession 57 = .ok (.iload_n 2, 1) := by decide +kernel
theorem dX5_changeSession_58 : decode cX5_changeSession 58 = .ok (.invokevirtual 190, 3) := by decide +kernel
theorem dX5_changeSession_61 : decode cX5_changeSession 61 = .ok (.iconst 0, 1) := by decide +kernel
theorem dX5_changeSession_62 : decode cX5_changeSession 62 = .ok (.ireturn, 1) := by decide +kernel
theorem dX5_stayPresent_0 : decode cX5_stayPresent 0 = .ok (.aload_n 1, 1) := by decide +kernel
theorem dX5_stayPresent_1 : decode cX5_stayPresent 1 = .ok (.invokevirtual 236, 3) := by decide +kernel
theorem dX5_stayPresent_4 : decode cX5_stayPresent 4 = .ok (.iconst 1, 1) := by decide +kernel
theorem dX5_stayPresent_5 : decode cX5_stayPresent 5 = .ok (.if_icmp .eq 6, 3) := by decide +kernel
theorem dX5_stayPresent_8 : decode cX5_stayPresent 8 = .ok (.bipush 19, 2) := by decide +kernel
theorem dX5_stayPresent_10 : decode cX5_stayPresent 10 = .ok (.ireturn, 1) := by decide +kernel
theorem dX5_stayPresent_11 : decode cX5_stayPresent 11 = .ok (.aload_n 1, 1) := by decide +kernel
theorem dX5_stayPresent_12 : decode cX5_stayPresent 12 = .ok (.invokevirtual 239, 3) := by decide +kernel
theorem dX5_stayPresent_15 : decode cX5_stayPresent 15 = .ok (.ifCond .eq 6, 3) := by decide +kernel
theorem dX5_stayPresent_18 : decode cX5_stayPresent 18 = .ok (.bipush 18, 2) := by decide +kernel
theorem dX5_stayPresent_20 : decode cX5_stayPresent 20 = .ok (.ireturn, 1) := by decide +kernel
theorem dX5_stayPresent_21 : decode cX5_stayPresent 21 = .ok (.aload_n 0, 1) := by decide +kernel
theorem dX5_stayPresent_22 : decode cX5_stayPresent 22 = .ok (.aload_n 1, 1) := by decide +kernel
theorem dX5_stayPresent_23 : decode cX5_stayPresent 23 = .ok (.invokevirtual 242, 3) := by decide +kernel
theorem dX5_stayPresent_26 : decode cX5_stayPresent 26 = .ok (.aload_n 0, 1) := by decide +kernel
theorem dX5_stayPresent_27 : decode cX5_stayPresent 27 = .ok (.getfield 67, 3) := by decide +kernel
theorem dX5_stayPresent_30 : decode cX5_stayPresent 30 = .ok (.iconst 0, 1) := by decide +kernel
theorem dX5_stayPresent_31 : decode cX5_stayPresent 31 = .ok (.invokevirtual 190, 3) := by decide +kernel
theorem dX5_stayPresent_34 : decode cX5_stayPresent 34 = .ok (.iconst 0, 1) := by decide +kernel
theorem dX5_stayPresent_35 : decode cX5_stayPresent 35 = .ok (.ireturn, 1) := by decide +kernel
theorem dX5_reset_0 : decode cX5_reset 0 = .ok (.aload_n 1, 1) := by decide +kernel
theorem dX5_reset_1 : decode cX5_reset 1 = .ok (.invokevirtual 236, 3) := by decide +kernel
theorem dX5_reset_4 : decode cX5_reset 4 = .ok (.iconst 1, 1) := by decide +kernel
theorem dX5_reset_5 : decode cX5_reset 5 = .ok (.if_icmp .eq 6, 3) := by decide +kernel
theorem dX5_reset_8 : decode cX5_reset 8 = .ok (.bipush 19, 2) := by decide +kernel
theorem dX5_reset_10 : decode cX5_reset 10 = .ok (.ireturn, 1) := by decide +kernel
theorem dX5_reset_11 : decode cX5_reset 11 = .ok (.aload_n 1, 1) := by decide +kernel
theorem dX5_reset_12 : decode cX5_reset 12 = .ok (.invokevirtual 239, 3) := by decide +kernel
theorem dX5_reset_15 : decode cX5_reset 15 = .ok (.istore_n 2, 1) := by decide +kernel
theorem dX5_reset_16 : decode cX5_reset 16 = .ok (.iload_n 2, 1) := by decide +kernel
theorem dX5_reset_17 : decode cX5_reset 17 = .ok (.iconst 1, 1) := by decide +kernel
theorem dX5_reset_18 : decode cX5_reset 18 = .ok (.if_icmp .eq 11, 3) := by decide +kernel
theorem dX5_reset_21 : decode cX5_reset 21 = .ok (.iload_n 2, 1) := by decide +kernel
theorem dX5_reset_22 : decode cX5_reset 22 = .ok (.iconst 3, 1) := by decide +kernel
theorem dX5_reset_23 : decode cX5_reset 23 = .ok (.if_icmp .eq 6, 3) := by decide +kernel
theorem dX5_reset_26 : decode cX5_reset 26 = .ok (.bipush 18, 2) := by decide +kernel
theorem dX5_reset_28 : decode cX5_reset 28 = .ok (.ireturn, 1) := by decide +kernel
theorem dX5_reset_29 : decode cX5_reset 29 = .ok (.aload_n 0, 1) := by decide +kernel
theorem dX5_reset_30 : decode cX5_reset 30 = .ok (.getfield 28, 3) := by decide +kernel
theorem dX5_reset_33 : decode cX5_reset 33 = .ok (.ifCond .ne 6, 3) := by decide +kernel
theorem dX5_reset_36 : decode cX5_reset 36 = .ok (.bipush 34, 2) := by decide +kernel
theorem dX5_reset_38 : decode cX5_reset 38 = .ok (.ireturn, 1) := by decide +kernel
theorem dX5_reset_39 : decode cX5_reset 39 = .ok (.aload_n 0, 1) := by decide +kernel
theorem dX5_reset_40 : decode cX5_reset 40 = .ok (.iconst 1, 1) := by decide +kernel
theorem dX5_reset_41 : decode cX5_reset 41 = .ok (.invokevirtual 158, 3) := by decide +kernel
theorem dX5_reset_44 : decode cX5_reset 44 = .ok (.aload_n 0, 1) := by decide +kernel
theorem dX5_reset_45 : decode cX5_reset 45 = .ok (.invokevirtual 245, 3) := by decide +kernel
theorem dX5_reset_48 : decode cX5_reset 48 = .ok (.iload_n 2, 1) := by decide +kernel
theorem dX5_reset_49 : decode cX5_reset 49 = .ok (.iconst 1, 1) := by decide +kernel
theorem dX5_reset_50 : decode cX5_reset 50 = .ok (.if_icmp .ne 7, 3) := by decide +kernel
theorem dX5_reset_53 : decode cX5_reset 53 = .ok (.aload_n 0, 1) := by decide +kernel
theorem dX5_reset_54 : decode cX5_reset 54 = .ok (.invokevirtual 248, 3) := by decide +kernel
theorem dX5_reset_57 : decode cX5_reset 57 = .ok (.aload_n 0, 1) := by decide +kernel
theorem dX5_reset_58 : decode cX5_reset 58 = .ok (.aload_n 1, 1) := by decide +kernel
theorem dX5_reset_59 : decode cX5_reset 59 = .ok (.invokevirtual 242, 3) := by decide +kernel
theorem dX5_reset_62 : decode cX5_reset 62 = .ok (.aload_n 0, 1) := by decide +kernel
theorem dX5_reset_63 : decode cX5_reset 63 = .ok (.getfield 67, 3) := by decide +kernel
theorem dX5_reset_66 : decode cX5_reset 66 = .ok (.iload_n 2, 1) := by decide +kernel
theorem dX5_reset_67 : decode cX5_reset 67 = .ok (.invokevirtual 190, 3) := by decide +kernel
theorem dX5_reset_70 : decode cX5_reset 70 = .ok (.iconst 0, 1) := by decide +kernel
theorem dX5_reset_71 : decode cX5_reset 71 = .ok (.ireturn, 1) := by decide +kernel
theorem dX5_forgetRoutines_0 : decode cX5_forgetRoutines 0 = .ok (.iconst 0, 1) := by decide +kernel
theorem dX5_forgetRoutines_1 : decode cX5_forgetRoutines 1 = .ok (.istore_n 1, 1) := by decide +kernel
theorem dX5_forgetRoutines_2 : decode cX5_forgetRoutines 2 = .ok (.iload_n 1, 1) := by decide +kernel
theorem dX5_forgetRoutines_3 : decode cX5_forgetRoutines 3 = .ok (.aload_n 0, 1) := by decide +kernel
theorem dX5_forgetRoutines_4 : decode cX5_forgetRoutines 4 = .ok (.getfield 21, 3) := by decide +kernel
theorem dX5_forgetRoutines_7 : decode cX5_forgetRoutines 7 = .ok (.arraylength, 1) := by decide +kernel
theorem dX5_forgetRoutines_8 : decode cX5_forgetRoutines 8 = .ok (.if_icmp .ge 24, 3) := by decide +kernel
theorem dX5_forgetRoutines_11 : decode cX5_forgetRoutines 11 = .ok (.aload_n 0, 1) := by decide +kernel
theorem dX5_forgetRoutines_12 : decode cX5_forgetRoutines 12 = .ok (.getfield 21, 3) := by decide +kernel
theorem dX5_forgetRoutines_15 : decode cX5_forgetRoutines 15 = .ok (.iload_n 1, 1) := by decide +kernel
theorem dX5_forgetRoutines_16 : decode cX5_forgetRoutines 16 = .ok (.aaload, 1) := by decide +kernel
theorem dX5_forgetRoutines_17 : decode cX5_forgetRoutines 17 = .ok (.astore_n 2, 1) := by decide +kernel
theorem dX5_forgetRoutines_18 : decode cX5_forgetRoutines 18 = .ok (.aload_n 2, 1) := by decide +kernel
theorem dX5_forgetRoutines_19 : decode cX5_forgetRoutines 19 = .ok (.ifnull 7, 3) := by decide +kernel
theorem dX5_forgetRoutines_22 : decode cX5_forgetRoutines 22 = .ok (.aload_n 2, 1) := by decide +kernel
theorem dX5_forgetRoutines_23 : decode cX5_forgetRoutines 23 = .ok (.invokevirtual 251, 3) := by decide +kernel
theorem dX5_forgetRoutines_26 : decode cX5_forgetRoutines 26 = .ok (.iinc 1 1, 3) := by decide +kernel
theorem dX5_forgetRoutines_29 : decode cX5_forgetRoutines 29 = .ok (.goto (-27), 3) := by decide +kernel
theorem dX5_forgetRoutines_32 : decode cX5_forgetRoutines 32 = .ok (.return_, 1) := by decide +kernel
theorem dX5_clearOwnValues_0 : decode cX5_clearOwnValues 0 = .ok (.iconst 0, 1) := by decide +kernel
theorem dX5_clearOwnValues_1 : decode cX5_clearOwnValues 1 = .ok (.istore_n 1, 1) := by decide +kernel
theorem dX5_clearOwnValues_2 : decode cX5_clearOwnValues 2 = .ok (.iload_n 1, 1) := by decide +kernel
theorem dX5_clearOwnValues_3 : decode cX5_clearOwnValues 3 = .ok (.aload_n 0, 1) := by decide +kernel
theorem dX5_clearOwnValues_4 : decode cX5_clearOwnValues 4 = .ok (.getfield 11, 3) := by decide +kernel
theorem dX5_clearOwnValues_7 : decode cX5_clearOwnValues 7 = .ok (.arraylength, 1) := by decide +kernel
theorem dX5_clearOwnValues_8 : decode cX5_clearOwnValues 8 = .ok (.if_icmp .ge 25, 3) := by decide +kernel
theorem dX5_clearOwnValues_11 : decode cX5_clearOwnValues 11 = .ok (.aload_n 0, 1) := by decide +kernel
theorem dX5_clearOwnValues_12 : decode cX5_clearOwnValues 12 = .ok (.getfield 11, 3) := by decide +kernel
theorem dX5_clearOwnValues_15 : decode cX5_clearOwnValues 15 = .ok (.iload_n 1, 1) := by decide +kernel
theorem dX5_clearOwnValues_16 : decode cX5_clearOwnValues 16 = .ok (.aaload, 1) := by decide +kernel
theorem dX5_clearOwnValues_17 : decode cX5_clearOwnValues 17 = .ok (.astore_n 2, 1) := by decide +kernel
theorem dX5_clearOwnValues_18 : decode cX5_clearOwnValues 18 = .ok (.aload_n 2, 1) := by decide +kernel
theorem dX5_clearOwnValues_19 : decode cX5_clearOwnValues 19 = .ok (.ifnull 8, 3) := by decide +kernel
theorem dX5_clearOwnValues_22 : decode cX5_clearOwnValues 22 = .ok (.aload_n 2, 1) := by decide +kernel
theorem dX5_clearOwnValues_23 : decode cX5_clearOwnValues 23 = .ok (.lconst 0, 1) := by decide +kernel
theorem dX5_clearOwnValues_24 : decode cX5_clearOwnValues 24 = .ok (.putfield 115, 3) := by decide +kernel
theorem dX5_clearOwnValues_27 : decode cX5_clearOwnValues 27 = .ok (.iinc 1 1, 3) := by decide +kernel
theorem dX5_clearOwnValues_30 : decode cX5_clearOwnValues 30 = .ok (.goto (-28), 3) := by decide +kernel
theorem dX5_clearOwnValues_33 : decode cX5_clearOwnValues 33 = .ok (.return_, 1) := by decide +kernel
theorem dX5_read_0 : decode cX5_read 0 = .ok (.aload_n 1, 1) := by decide +kernel
theorem dX5_read_1 : decode cX5_read 1 = .ok (.invokevirtual 236, 3) := by decide +kernel
theorem dX5_read_4 : decode cX5_read 4 = .ok (.istore_n 2, 1) := by decide +kernel
theorem dX5_read_5 : decode cX5_read 5 = .ok (.iload_n 2, 1) := by decide +kernel
theorem dX5_read_6 : decode cX5_read 6 = .ok (.iconst 2, 1) := by decide +kernel
theorem dX5_read_7 : decode cX5_read 7 = .ok (.bipush 8, 2) := by decide +kernel
theorem dX5_read_9 : decode cX5_read 9 = .ok (.invokestatic 79, 3) := by decide +kernel
theorem dX5_read_12 : decode cX5_read 12 = .ok (.ifCond .eq 9, 3) := by decide +kernel
theorem dX5_read_15 : decode cX5_read 15 = .ok (.iload_n 2, 1) := by decide +kernel
theorem dX5_read_16 : decode cX5_read 16 = .ok (.iconst 1, 1) := by decide +kernel
theorem dX5_read_17 : decode cX5_read 17 = .ok (.iand, 1) := by decide +kernel
theorem dX5_read_18 : decode cX5_read 18 = .ok (.ifCond .eq 6, 3) := by decide +kernel
theorem dX5_read_21 : decode cX5_read 21 = .ok (.bipush 19, 2) := by decide +kernel
theorem dX5_read_23 : decode cX5_read 23 = .ok (.ireturn, 1) := by decide +kernel
theorem dX5_read_24 : decode cX5_read 24 = .ok (.iconst 0, 1) := by decide +kernel
theorem dX5_read_25 : decode cX5_read 25 = .ok (.istore_n 3, 1) := by decide +kernel
theorem dX5_read_26 : decode cX5_read 26 = .ok (.iconst 0, 1) := by decide +kernel
theorem dX5_read_27 : decode cX5_read 27 = .ok (.istore 4, 2) := by decide +kernel
theorem dX5_read_29 : decode cX5_read 29 = .ok (.iconst 0, 1) := by decide +kernel
theorem dX5_read_30 : decode cX5_read 30 = .ok (.istore 5, 2) := by decide +kernel
theorem dX5_read_32 : decode cX5_read 32 = .ok (.iload 5, 2) := by decide +kernel
theorem dX5_read_34 : decode cX5_read 34 = .ok (.iload_n 2, 1) := by decide +kernel
theorem dX5_read_35 : decode cX5_read 35 = .ok (.if_icmp .ge 52, 3) := by decide +kernel
theorem dX5_read_38 : decode cX5_read 38 = .ok (.aload_n 0, 1) := by decide +kernel
theorem dX5_read_39 : decode cX5_read 39 = .ok (.aload_n 1, 1) := by decide +kernel
theorem dX5_read_40 : decode cX5_read 40 = .ok (.iload 5, 2) := by decide +kernel
theorem dX5_read_42 : decode cX5_read 42 = .ok (.invokevirtual 254, 3) := by decide +kernel
theorem dX5_read_45 : decode cX5_read 45 = .ok (.invokevirtual 258, 3) := by decide +kernel
theorem dX5_read_48 : decode cX5_read 48 = .ok (.astore 6, 2) := by decide +kernel
theorem dX5_read_50 : decode cX5_read 50 = .ok (.aload 6, 2) := by decide +kernel
theorem dX5_read_52 : decode cX5_read 52 = .ok (.ifnull 29, 3) := by decide +kernel
theorem dX5_read_55 : decode cX5_read 55 = .ok (.iconst 1, 1) := by decide +kernel
theorem dX5_read_56 : decode cX5_read 56 = .ok (.istore_n 3, 1) := by decide +kernel
theorem dX5_read_57 : decode cX5_read 57 = .ok (.iload 4, 2) := by decide +kernel
theorem dX5_read_59 : decode cX5_read 59 = .ok (.ifCond .ne 15, 3) := by decide +kernel
theorem dX5_read_62 : decode cX5_read 62 = .ok (.aload 6, 2) := by decide +kernel
theorem dX5_read_64 : decode cX5_read 64 = .ok (.getfield 261, 3) := by decide +kernel
theorem dX5_read_67 : decode cX5_read 67 = .ok (.aload_n 0, 1) := by decide +kernel
theorem dX5_read_68 : decode cX5_read 68 = .ok (.getfield 38, 3) := by decide +kernel
theorem dX5_read_71 : decode cX5_read 71 = .ok (.if_icmp .le 7, 3) := by decide +kernel
theorem dX5_read_74 : decode cX5_read 74 = .ok (.iconst 1, 1) := by decide +kernel
theorem dX5_read_75 : decode cX5_read 75 = .ok (.goto 4, 3) := by decide +kernel
theorem dX5_read_78 : decode cX5_read 78 = .ok (.iconst 0, 1) := by decide +kernel
theorem dX5_read_79 : decode cX5_read 79 = .ok (.istore 4, 2) := by decide +kernel
theorem dX5_read_81 : decode cX5_read 81 = .ok (.iinc 5 2, 3) := by decide +kernel
theorem dX5_read_84 : decode cX5_read 84 = .ok (.goto (-52), 3) := by decide +kernel
theorem dX5_read_87 : decode cX5_read 87 = .ok (.iload_n 3, 1) := by decide +kernel
theorem dX5_read_88 : decode cX5_read 88 = .ok (.ifCond .ne 6, 3) := by decide +kernel
theorem dX5_read_91 : decode cX5_read 91 = .ok (.bipush 49, 2) := by decide +kernel
theorem dX5_read_93 : decode cX5_read 93 = .ok (.ireturn, 1) := by decide +kernel
theorem dX5_read_94 : decode cX5_read 94 = .ok (.iload 4, 2) := by decide +kernel
theorem dX5_read_96 : decode cX5_read 96 = .ok (.ifCond .eq 6, 3) := by decide +kernel
theorem dX5_read_99 : decode cX5_read 99 = .ok (.bipush 51, 2) := by decide +kernel
theorem dX5_read_101 : decode cX5_read 101 = .ok (.ireturn, 1) := by decide +kernel
theorem dX5_read_102 : decode cX5_read 102 = .ok (.aload_n 0, 1) := by decide +kernel
theorem dX5_read_103 : decode cX5_read 103 = .ok (.aload_n 1, 1) := by decide +kernel
theorem dX5_read_104 : decode cX5_read 104 = .ok (.invokevirtual 242, 3) := by decide +kernel
theorem dX5_read_107 : decode cX5_read 107 = .ok (.iconst 0, 1) := by decide +kernel
theorem dX5_read_108 : decode cX5_read 108 = .ok (.istore 5, 2) := by decide +kernel
theorem dX5_read_110 : decode cX5_read 110 = .ok (.iload 5, 2) := by decide +kernel
theorem dX5_read_112 : decode cX5_read 112 = .ok (.iload_n 2, 1) := by decide +kernel
theorem dX5_read_113 : decode cX5_read 113 = .ok (.if_icmp .ge 32, 3) := by decide +kernel
theorem dX5_read_116 : decode cX5_read 116 = .ok (.aload_n 0, 1) := by decide +kernel
theorem dX5_read_117 : decode cX5_read 117 = .ok (.aload_n 1, 1) := by decide +kernel
theorem dX5_read_118 : decode cX5_read 118 = .ok (.iload 5, 2) := by decide +kernel
theorem dX5_read_120 : decode cX5_read 120 = .ok (.invokevirtual 254, 3) := by decide +kernel
theorem dX5_read_123 : decode cX5_read 123 = .ok (.invokevirtual 258, 3) := by decide +kernel
theorem dX5_read_126 : decode cX5_read 126 = .ok (.astore 6, 2) := by decide +kernel
theorem dX5_read_128 : decode cX5_read 128 = .ok (.aload 6, 2) := by decide +kernel
theorem dX5_read_130 : decode cX5_read 130 = .ok (.ifnull 9, 3) := by decide +kernel
theorem dX5_read_133 : decode cX5_read 133 = .ok (.aload_n 0, 1) := by decide +kernel
theorem dX5_read_134 : decode cX5_read 134 = .ok (.aload 6, 2) := by decide +kernel
theorem dX5_read_136 : decode cX5_read 136 = .ok (.invokevirtual 262, 3) := by decide +kernel
theorem dX5_read_139 : decode cX5_read 139 = .ok (.iinc 5 2, 3) := by decide +kernel
theorem dX5_read_142 : decode cX5_read 142 = .ok (.goto (-32), 3) := by decide +kernel
theorem dX5_read_145 : decode cX5_read 145 = .ok (.iconst 0, 1) := by decide +kernel
theorem dX5_read_146 : decode cX5_read 146 = .ok (.ireturn, 1) := by decide +kernel
theorem dX5_replyOctetsOf_0 : decode cX5_replyOctetsOf 0 = .ok (.aload_n 0, 1) := by decide +kernel
theorem dX5_replyOctetsOf_1 : decode cX5_replyOctetsOf 1 = .ok (.getfield 67, 3) := by decide +kernel
theorem dX5_replyOctetsOf_4 : decode cX5_replyOctetsOf 4 = .ok (.aload_n 1, 1) := by decide +kernel
theorem dX5_replyOctetsOf_5 : decode cX5_replyOctetsOf 5 = .ok (.getfield 166, 3) := by decide +kernel
theorem dX5_replyOctetsOf_8 : decode cX5_replyOctetsOf 8 = .ok (.invokevirtual 265, 3) := by decide +kernel
theorem dX5_replyOctetsOf_11 : decode cX5_replyOctetsOf 11 = .ok (.iconst 0, 1) := by decide +kernel
theorem dX5_replyOctetsOf_12 : decode cX5_replyOctetsOf 12 = .ok (.istore_n 2, 1) := by decide +kernel
theorem dX5_replyOctetsOf_13 : decode cX5_replyOctetsOf 13 = .ok (.iload_n 2, 1) := by decide +kernel
theorem dX5_replyOctetsOf_14 : decode cX5_replyOctetsOf 14 = .ok (.aload_n 1, 1) := by decide +kernel
theorem dX5_replyOctetsOf_15 : decode cX5_replyOctetsOf 15 = .ok (.getfield 98, 3) := by decide +kernel
theorem dX5_replyOctetsOf_18 : decode cX5_replyOctetsOf 18 = .ok (.if_icmp .ge 21, 3) := by decide +kernel
theorem dX5_replyOctetsOf_21 : decode cX5_replyOctetsOf 21 = .ok (.aload_n 0, 1) := by decide +kernel
theorem dX5_replyOctetsOf_22 : decode cX5_replyOctetsOf 22 = .ok (.getfield 67, 3) := by decide +kernel
theorem dX5_replyOctetsOf_25 : decode cX5_replyOctetsOf 25 = .ok (.aload_n 1, 1) := by decide +kernel
theorem dX5_replyOctetsOf_26 : decode cX5_replyOctetsOf 26 = .ok (.iload_n 2, 1) := by decide +kernel
theorem dX5_replyOctetsOf_27 : decode cX5_replyOctetsOf 27 = .ok (.invokevirtual 268, 3) := by decide +kernel
theorem dX5_replyOctetsOf_30 : decode cX5_replyOctetsOf 30 = .ok (.invokevirtual 190, 3) := by decide +kernel
theorem dX5_replyOctetsOf_33 : decode cX5_replyOctetsOf 33 = .ok (.iinc 2 1, 3) := by decide +kernel
theorem dX5_replyOctetsOf_36 : decode cX5_replyOctetsOf 36 = .ok (.goto (-23), 3) := by decide +kernel
theorem dX5_replyOctetsOf_39 : decode cX5_replyOctetsOf 39 = .ok (.return_, 1) := by decide +kernel
theorem dX5_write_0 : decode cX5_write 0 = .ok (.aload_n 1, 1) := by decide +kernel
theorem dX5_write_1 : decode cX5_write 1 = .ok (.invokevirtual 236, 3) := by decide +kernel
theorem dX5_write_4 : decode cX5_write 4 = .ok (.istore_n 2, 1) := by decide +kernel
theorem dX5_write_5 : decode cX5_write 5 = .ok (.iload_n 2, 1) := by decide +kernel
theorem dX5_write_6 : decode cX5_write 6 = .ok (.iconst 2, 1) := by decide +kernel
theorem dX5_write_7 : decode cX5_write 7 = .ok (.if_icmp .gt 6, 3) := by decide +kernel
theorem dX5_write_10 : decode cX5_write 10 = .ok (.bipush 19, 2) := by decide +kernel
theorem dX5_write_12 : decode cX5_write 12 = .ok (.ireturn, 1) := by decide +kernel
theorem dX5_write_13 : decode cX5_write 13 = .ok (.aload_n 0, 1) := by decide +kernel
theorem dX5_write_14 : decode cX5_write 14 = .ok (.aload_n 1, 1) := by decide +kernel
theorem dX5_write_15 : decode cX5_write 15 = .ok (.iconst 0, 1) := by decide +kernel
theorem dX5_write_16 : decode cX5_write 16 = .ok (.invokevirtual 254, 3) := by decide +kernel
theorem dX5_write_19 : decode cX5_write 19 = .ok (.invokevirtual 258, 3) := by decide +kernel
theorem dX5_write_22 : decode cX5_write 22 = .ok (.astore_n 3, 1) := by decide +kernel
theorem dX5_write_23 : decode cX5_write 23 = .ok (.aload_n 3, 1) := by decide +kernel
theorem dX5_write_24 : decode cX5_write 24 = .ok (.ifnull 17, 3) := by decide +kernel
theorem dX5_write_27 : decode cX5_write 27 = .ok (.aload_n 3, 1) := by decide +kernel
theorem dX5_write_28 : decode cX5_write 28 = .ok (.getfield 101, 3) := by decide +kernel
theorem dX5_write_31 : decode cX5_write 31 = .ok (.ifCond .ne 10, 3) := by decide +kernel
theorem dX5_write_34 : decode cX5_write 34 = .ok (.aload_n 3, 1) := by decide +kernel
theorem dX5_write_35 : decode cX5_write 35 = .ok (.getfield 118, 3) := by decide +kernel
theorem dX5_write_38 : decode cX5_write 38 = .ok (.ifCond .ne 6, 3) := by decide +kernel
theorem dX5_write_41 : decode cX5_write 41 = .ok (.bipush 49, 2) := by decide +kernel
theorem dX5_write_43 : decode cX5_write 43 = .ok (.ireturn, 1) := by decide +kernel
theorem dX5_write_44 : decode cX5_write 44 = .ok (.iload_n 2, 1) := by decide +kernel
theorem dX5_write_45 : decode cX5_write 45 = .ok (.iconst 2, 1) := by decide +kernel
theorem dX5_write_46 : decode cX5_write 46 = .ok (.isub, 1) := by decide +kernel
theorem dX5_write_47 : decode cX5_write 47 = .ok (.aload_n 3, 1) := by decide +kernel
theorem dX5_write_48 : decode cX5_write 48 = .ok (.getfield 98, 3) := by decide +kernel
theorem dX5_write_51 : decode cX5_write 51 = .ok (.if_icmp .eq 6, 3) := by decide +kernel
theorem dX5_write_54 : decode cX5_write 54 = .ok (.bipush 19, 2) := by decide +kernel
theorem dX5_write_56 : decode cX5_write 56 = .ok (.ireturn, 1) := by decide +kernel
theorem dX5_write_57 : decode cX5_write 57 = .ok (.aload_n 3, 1) := by decide +kernel
theorem dX5_write_58 : decode cX5_write 58 = .ok (.getfield 261, 3) := by decide +kernel
theorem dX5_write_61 : decode cX5_write 61 = .ok (.aload_n 0, 1) := by decide +kernel
theorem dX5_write_62 : decode cX5_write 62 = .ok (.getfield 38, 3) := by decide +kernel
theorem dX5_write_65 : decode cX5_write 65 = .ok (.if_icmp .le 6, 3) := by decide +kernel
theorem dX5_write_68 : decode cX5_write 68 = .ok (.bipush 51, 2) := by decide +kernel
theorem dX5_write_70 : decode cX5_write 70 = .ok (.ireturn, 1) := by decide +kernel
theorem dX5_write_71 : decode cX5_write 71 = .ok (.aload_n 0, 1) := by decide +kernel
theorem dX5_write_72 : decode cX5_write 72 = .ok (.getfield 28, 3) := by decide +kernel
theorem dX5_write_75 : decode cX5_write 75 = .ok (.ifCond .ne 6, 3) := by decide +kernel
theorem dX5_write_78 : decode cX5_write 78 = .ok (.bipush 34, 2) := by decide +kernel
theorem dX5_write_80 : decode cX5_write 80 = .ok (.ireturn, 1) := by decide +kernel
theorem dX5_write_81 : decode cX5_write 81 = .ok (.aload_n 3, 1) := by decide +kernel
theorem dX5_write_82 : decode cX5_write 82 = .ok (.aload_n 1, 1) := by decide +kernel
theorem dX5_write_83 : decode cX5_write 83 = .ok (.iconst 2, 1) := by decide +kernel
theorem dX5_write_84 : decode cX5_write 84 = .ok (.aload_n 3, 1) := by decide +kernel
theorem dX5_write_85 : decode cX5_write 85 = .ok (.getfield 98, 3) := by decide +kernel
theorem dX5_write_88 : decode cX5_write 88 = .ok (.invokevirtual 270, 3) := by decide +kernel
theorem dX5_write_91 : decode cX5_write 91 = .ok (.putfield 115, 3) := by decide +kernel
theorem dX5_write_94 : decode cX5_write 94 = .ok (.aload_n 0, 1) := by decide +kernel
theorem dX5_write_95 : decode cX5_write 95 = .ok (.aload_n 1, 1) := by decide +kernel
theorem dX5_write_96 : decode cX5_write 96 = .ok (.invokevirtual 242, 3) := by decide +kernel
theorem dX5_write_99 : decode cX5_write 99 = .ok (.aload_n 0, 1) := by decide +kernel
theorem dX5_write_100 : decode cX5_write 100 = .ok (.getfield 67, 3) := by decide +kernel
theorem dX5_write_103 : decode cX5_write 103 = .ok (.aload_n 3, 1) := by decide +kernel
theorem dX5_write_104 : decode cX5_write 104 = .ok (.getfield 166, 3) := by decide +kernel
theorem dX5_write_107 : decode cX5_write 107 = .ok (.invokevirtual 265, 3) := by decide +kernel
theorem dX5_write_110 : decode cX5_write 110 = .ok (.iconst 0, 1) := by decide +kernel
theorem dX5_write_111 : decode cX5_write 111 = .ok (.ireturn, 1) := by decide +kernel
theorem dX5_takeControl_0 : decode cX5_takeControl 0 = .ok (.aload_n 0, 1) := by decide +kernel
theorem dX5_takeControl_1 : decode cX5_takeControl 1 = .ok (.getfield 35, 3) := by decide +kernel
theorem dX5_takeControl_4 : decode cX5_takeControl 4 = .ok (.iconst 1, 1) := by decide +kernel
theorem dX5_takeControl_5 : decode cX5_takeControl 5 = .ok (.if_icmp .ne 6, 3) := by decide +kernel
theorem dX5_takeControl_8 : decode cX5_takeControl 8 = .ok (.bipush 127, 2) := by decide +kernel
theorem dX5_takeControl_10 : decode cX5_takeControl 10 = .ok (.ireturn, 1) := by decide +kernel
theorem dX5_takeControl_11 : decode cX5_takeControl 11 = .ok (.aload_n 1, 1) := by decide +kernel
theorem dX5_takeControl_12 : decode cX5_takeControl 12 = .ok (.invokevirtual 236, 3) := by decide +kernel
theorem dX5_takeControl_15 : decode cX5_takeControl 15 = .ok (.istore_n 2, 1) := by decide +kernel
theorem dX5_takeControl_16 : decode cX5_takeControl 16 = .ok (.iload_n 2, 1) := by decide +kernel
theorem dX5_takeControl_17 : decode cX5_takeControl 17 = .ok (.iconst 2, 1) := by decide +kernel
theorem dX5_takeControl_18 : decode cX5_takeControl 18 = .ok (.if_icmp .gt 6, 3) := by decide +kernel
theorem dX5_takeControl_21 : decode cX5_takeControl 21 = .ok (.bipush 19, 2) := by decide +kernel
theorem dX5_takeControl_23 : decode cX5_takeControl 23 = .ok (.ireturn, 1) := by decide +kernel
theorem dX5_takeControl_24 : decode cX5_takeControl 24 = .ok (.aload_n 0, 1) := by decide +kernel
theorem dX5_takeControl_25 : decode cX5_takeControl 25 = .ok (.aload_n 1, 1) := by decide +kernel
theorem dX5_takeControl_26 : decode cX5_takeControl 26 = .ok (.iconst 0, 1) := by decide +kernel
theorem dX5_takeControl_27 : decode cX5_takeControl 27 = .ok (.invokevirtual 254, 3) := by decide +kernel
theorem dX5_takeControl_30 : decode cX5_takeControl 30 = .ok (.invokevirtual 258, 3) := by decide +kernel
theorem dX5_takeControl_33 : decode cX5_takeControl 33 = .ok (.astore_n 3, 1) := by decide +kernel
theorem dX5_takeControl_34 : decode cX5_takeControl 34 = .ok (.aload_n 3, 1) := by decide +kernel
theorem dX5_takeControl_35 : decode cX5_takeControl 35 = .ok (.ifnull 10, 3) := by decide +kernel
theorem dX5_takeControl_38 : decode cX5_takeControl 38 = .ok (.aload_n 3, 1) := by decide +kernel
theorem dX5_takeControl_39 : decode cX5_takeControl 39 = .ok (.getfield 101, 3) := by decide +kernel
theorem dX5_takeControl_42 : decode cX5_takeControl 42 = .ok (.ifCond .eq 6, 3) := by decide +kernel
theorem dX5_takeControl_45 : decode cX5_takeControl 45 = .ok (.bipush 49, 2) := by decide +kernel
theorem dX5_takeControl_47 : decode cX5_takeControl 47 = .ok (.ireturn, 1) := by decide +kernel
theorem dX5_takeControl_48 : decode cX5_takeControl 48 = .ok (.aload_n 3, 1) := by decide +kernel
theorem dX5_takeControl_49 : decode cX5_takeControl 49 = .ok (.getfield 261, 3) := by decide +kernel
theorem dX5_takeControl_52 : decode cX5_takeControl 52 = .ok (.aload_n 0, 1) := by decide +kernel
theorem dX5_takeControl_53 : decode cX5_takeControl 53 = .ok (.getfield 38, 3) := by decide +kernel
theorem dX5_takeControl_56 : decode cX5_takeControl 56 = .ok (.if_icmp .le 6, 3) := by decide +kernel
theorem dX5_takeControl_59 : decode cX5_takeControl 59 = .ok (.bipush 51, 2) := by decide +kernel
theorem dX5_takeControl_61 : decode cX5_takeControl 61 = .ok (.ireturn, 1) := by decide +kernel
theorem dX5_takeControl_62 : decode cX5_takeControl 62 = .ok (.aload_n 1, 1) := by decide +kernel
theorem dX5_takeControl_63 : decode cX5_takeControl 63 = .ok (.iconst 2, 1) := by decide +kernel
theorem dX5_takeControl_64 : decode cX5_takeControl 64 = .ok (.invokevirtual 273, 3) := by decide +kernel
theorem dX5_takeControl_67 : decode cX5_takeControl 67 = .ok (.istore 4, 2) := by decide +kernel
theorem dX5_takeControl_69 : decode cX5_takeControl 69 = .ok (.iload 4, 2) := by decide +kernel
theorem dX5_takeControl_71 : decode cX5_takeControl 71 = .ok (.iconst 0, 1) := by decide +kernel
theorem dX5_takeControl_72 : decode cX5_takeControl 72 = .ok (.iconst 3, 1) := by decide +kernel
theorem dX5_takeControl_73 : decode cX5_takeControl 73 = .ok (.invokestatic 79, 3) := by decide +kernel
theorem dX5_takeControl_76 : decode cX5_takeControl 76 = .ok (.ifCond .ne 6, 3) := by decide +kernel
theorem dX5_takeControl_79 : decode cX5_takeControl 79 = .ok (.bipush 49, 2) := by decide +kernel
theorem dX5_takeControl_81 : decode cX5_takeControl 81 = .ok (.ireturn, 1) := by decide +kernel
theorem dX5_takeControl_82 : decode cX5_takeControl 82 = .ok (.iload_n 2, 1) := by decide +kernel
theorem dX5_takeControl_83 : decode cX5_takeControl 83 = .ok (.iconst 3, 1) := by decide +kernel
theorem dX5_takeControl_84 : decode cX5_takeControl 84 = .ok (.isub, 1) := by decide +kernel
theorem dX5_takeControl_85 : decode cX5_takeControl 85 = .ok (.iload 4, 2) := by decide +kernel
theorem dX5_takeControl_87 : decode cX5_takeControl 87 = .ok (.iconst 3, 1) := by decide +kernel
theorem dX5_takeControl_88 : decode cX5_takeControl 88 = .ok (.if_icmp .ne 10, 3) := by decide +kernel
theorem dX5_takeControl_91 : decode cX5_takeControl 91 = .ok (.aload_n 3, 1) := by decide +kernel
theorem dX5_takeControl_92 : decode cX5_takeControl 92 = .ok (.getfield 98, 3) := by decide +kernel
theorem dX5_takeControl_95 : decode cX5_takeControl 95 = .ok (.goto 4, 3) := by decide +kernel
theorem dX5_takeControl_98 : decode cX5_takeControl 98 = .ok (.iconst 0, 1) := by decide +kernel
theorem dX5_takeControl_99 : decode cX5_takeControl 99 = .ok (.if_icmp .eq 6, 3) := by decide +kernel
theorem dX5_takeControl_102 : decode cX5_takeControl 102 = .ok (.bipush 19, 2) := by decide +kernel
theorem dX5_takeControl_104 : decode cX5_takeControl 104 = .ok (.ireturn, 1) := by decide +kernel
theorem dX5_takeControl_105 : decode cX5_takeControl 105 = .ok (.aload_n 3, 1) := by decide +kernel
theorem dX5_takeControl_106 : decode cX5_takeControl 106 = .ok (.iload 4, 2) := by decide +kernel
theorem dX5_takeControl_108 : decode cX5_takeControl 108 = .ok (.aload_n 1, 1) := by decide +kernel
theorem dX5_takeControl_109 : decode cX5_takeControl 109 = .ok (.invokestatic 274, 3) := by decide +kernel
theorem dX5_takeControl_112 : decode cX5_takeControl 112 = .ok (.aload_n 0, 1) := by decide +kernel
theorem dX5_takeControl_113 : decode cX5_takeControl 113 = .ok (.aload_n 1, 1) := by decide +kernel
theorem dX5_takeControl_114 : decode cX5_takeControl 114 = .ok (.invokevirtual 242, 3) := by decide +kernel
theorem dX5_takeControl_117 : decode cX5_takeControl 117 = .ok (.aload_n 0, 1) := by decide +kernel
theorem dX5_takeControl_118 : decode cX5_takeControl 118 = .ok (.getfield 67, 3) := by decide +kernel
theorem dX5_takeControl_121 : decode cX5_takeControl 121 = .ok (.aload_n 3, 1) := by decide +kernel
theorem dX5_takeControl_122 : decode cX5_takeControl 122 = .ok (.getfield 166, 3) := by decide +kernel
theorem dX5_takeControl_125 : decode cX5_takeControl 125 = .ok (.invokevirtual 265, 3) := by decide +kernel
theorem dX5_takeControl_128 : decode cX5_takeControl 128 = .ok (.aload_n 0, 1) := by decide +kernel
theorem dX5_takeControl_129 : decode cX5_takeControl 129 = .ok (.getfield 67, 3) := by decide +kernel
theorem dX5_takeControl_132 : decode cX5_takeControl 132 = .ok (.iload 4, 2) := by decide +kernel
theorem dX5_takeControl_134 : decode cX5_takeControl 134 = .ok (.invokevirtual 190, 3) := by decide +kernel
theorem dX5_takeControl_137 : decode cX5_takeControl 137 = .ok (.iconst 0, 1) := by decide +kernel
theorem dX5_takeControl_138 : decode cX5_takeControl 138 = .ok (.ireturn, 1) := by decide +kernel
theorem dX5_setControl_0 : decode cX5_setControl 0 = .ok (.iload_n 1, 1) := by decide +kernel
theorem dX5_setControl_1 : decode cX5_setControl 1 = .ok (.tableswitch 53 0 2 #[27, 34, 42], 27) := by decide +kernel
theorem dX5_setControl_28 : decode cX5_setControl 28 = .ok (.aload_n 0, 1) := by decide +kernel
theorem dX5_setControl_29 : decode cX5_setControl 29 = .ok (.invokevirtual 171, 3) := by decide +kernel
theorem dX5_setControl_32 : decode cX5_setControl 32 = .ok (.goto 35, 3) := by decide +kernel
theorem dX5_setControl_35 : decode cX5_setControl 35 = .ok (.aload_n 0, 1) := by decide +kernel
theorem dX5_setControl_36 : decode cX5_setControl 36 = .ok (.lconst 0, 1) := by decide +kernel
theorem dX5_setControl_37 : decode cX5_setControl 37 = .ok (.invokevirtual 278, 3) := by decide +kernel
theorem dX5_setControl_40 : decode cX5_setControl 40 = .ok (.goto 27, 3) := by decide +kernel
theorem dX5_setControl_43 : decode cX5_setControl 43 = .ok (.aload_n 0, 1) := by decide +kernel
theorem dX5_setControl_44 : decode cX5_setControl 44 = .ok (.aload_n 0, 1) := by decide +kernel
theorem dX5_setControl_45 : decode cX5_setControl 45 = .ok (.invokevirtual 162, 3) := by decide +kernel
theorem dX5_setControl_48 : decode cX5_setControl 48 = .ok (.invokevirtual 278, 3) := by decide +kernel
theorem dX5_setControl_51 : decode cX5_setControl 51 = .ok (.goto 16, 3) := by decide +kernel
theorem dX5_setControl_54 : decode cX5_setControl 54 = .ok (.aload_n 0, 1) := by decide +kernel
theorem dX5_setControl_55 : decode cX5_setControl 55 = .ok (.aload_n 2, 1) := by decide +kernel
theorem dX5_setControl_56 : decode cX5_setControl 56 = .ok (.iconst 3, 1) := by decide +kernel
theorem dX5_setControl_57 : decode cX5_setControl 57 = .ok (.aload_n 0, 1) := by decide +kernel
theorem dX5_setControl_58 : decode cX5_setControl 58 = .ok (.getfield 98, 3) := by decide +kernel
theorem dX5_setControl_61 : decode cX5_setControl 61 = .ok (.invokevirtual 270, 3) := by decide +kernel
theorem dX5_setControl_64 : decode cX5_setControl 64 = .ok (.invokevirtual 278, 3) := by decide +kernel
theorem dX5_setControl_67 : decode cX5_setControl 67 = .ok (.return_, 1) := by decide +kernel
theorem dX5_handleRoutine_0 : decode cX5_handleRoutine 0 = .ok (.aload_n 0, 1) := by decide +kernel
theorem dX5_handleRoutine_1 : decode cX5_handleRoutine 1 = .ok (.getfield 35, 3) := by decide +kernel
theorem dX5_handleRoutine_4 : decode cX5_handleRoutine 4 = .ok (.iconst 1, 1) := by decide +kernel
theorem dX5_handleRoutine_5 : decode cX5_handleRoutine 5 = .ok (.if_icmp .ne 6, 3) := by decide +kernel
theorem dX5_handleRoutine_8 : decode cX5_handleRoutine 8 = .ok (.bipush 127, 2) := by decide +kernel
theorem dX5_handleRoutine_10 : decode cX5_handleRoutine 10 = .ok (.ireturn, 1) := by decide +kernel
theorem dX5_handleRoutine_11 : decode cX5_handleRoutine 11 = .ok (.aload_n 1, 1) := by decide +kernel
theorem dX5_handleRoutine_12 : decode cX5_handleRoutine 12 = .ok (.invokevirtual 236, 3) := by decide +kernel
theorem dX5_handleRoutine_15 : decode cX5_handleRoutine 15 = .ok (.iconst 3, 1) := by decide +kernel
theorem dX5_handleRoutine_16 : decode cX5_handleRoutine 16 = .ok (.if_icmp .eq 6, 3) := by decide +kernel
theorem dX5_handleRoutine_19 : decode cX5_handleRoutine 19 = .ok (.bipush 19, 2) := by decide +kernel
theorem dX5_handleRoutine_21 : decode cX5_handleRoutine 21 = .ok (.ireturn, 1) := by decide +kernel
theorem dX5_handleRoutine_22 : decode cX5_handleRoutine 22 = .ok (.aload_n 1, 1) := by decide +kernel
theorem dX5_handleRoutine_23 : decode cX5_handleRoutine 23 = .ok (.invokevirtual 239, 3) := by decide +kernel
theorem dX5_handleRoutine_26 : decode cX5_handleRoutine 26 = .ok (.istore_n 2, 1) := by decide +kernel
theorem dX5_handleRoutine_27 : decode cX5_handleRoutine 27 = .ok (.iload_n 2, 1) := by decide +kernel
theorem dX5_handleRoutine_28 : decode cX5_handleRoutine 28 = .ok (.iconst 1, 1) := by decide +kernel
theorem dX5_handleRoutine_29 : decode cX5_handleRoutine 29 = .ok (.iconst 3, 1) := by decide +kernel
theorem dX5_handleRoutine_30 : decode cX5_handleRoutine 30 = .ok (.invokestatic 79, 3) := by decide +kernel
theorem dX5_handleRoutine_33 : decode cX5_handleRoutine 33 = .ok (.ifCond .ne 6, 3) := by decide +kernel
theorem dX5_handleRoutine_36 : decode cX5_handleRoutine 36 = .ok (.bipush 18, 2) := by decide +kernel
theorem dX5_handleRoutine_38 : decode cX5_handleRoutine 38 = .ok (.ireturn, 1) := by decide +kernel
theorem dX5_handleRoutine_39 : decode cX5_handleRoutine 39 = .ok (.aload_n 0, 1) := by decide +kernel
theorem dX5_handleRoutine_40 : decode cX5_handleRoutine 40 = .ok (.aload_n 1, 1) := by decide +kernel
theorem dX5_handleRoutine_41 : decode cX5_handleRoutine 41 = .ok (.iconst 1, 1) := by decide +kernel
theorem dX5_handleRoutine_42 : decode cX5_handleRoutine 42 = .ok (.invokevirtual 254, 3) := by decide +kernel
theorem dX5_handleRoutine_45 : decode cX5_handleRoutine 45 = .ok (.invokevirtual 108, 3) := by decide +kernel
theorem dX5_handleRoutine_48 : decode cX5_handleRoutine 48 = .ok (.astore_n 3, 1) := by decide +kernel
theorem dX5_handleRoutine_49 : decode cX5_handleRoutine 49 = .ok (.aload_n 3, 1) := by decide +kernel
theorem dX5_handleRoutine_50 : decode cX5_handleRoutine 50 = .ok (.ifnonnull 6, 3) := by decide +kernel
theorem dX5_handleRoutine_53 : decode cX5_handleRoutine 53 = .ok (.bipush 49, 2) := by decide +kernel
theorem dX5_handleRoutine_55 : decode cX5_handleRoutine 55 = .ok (.ireturn, 1) := by decide +kernel
theorem dX5_handleRoutine_56 : decode cX5_handleRoutine 56 = .ok (.aload_n 0, 1) := by decide +kernel
theorem dX5_handleRoutine_57 : decode cX5_handleRoutine 57 = .ok (.aload_n 3, 1) := by decide +kernel
theorem dX5_handleRoutine_58 : decode cX5_handleRoutine 58 = .ok (.iload_n 2, 1) := by decide +kernel
theorem dX5_handleRoutine_59 : decode cX5_handleRoutine 59 = .ok (.invokevirtual 282, 3) := by decide +kernel
theorem dX5_handleRoutine_62 : decode cX5_handleRoutine 62 = .ok (.istore 4, 2) := by decide +kernel
theorem dX5_handleRoutine_64 : decode cX5_handleRoutine 64 = .ok (.iload 4, 2) := by decide +kernel
theorem dX5_handleRoutine_66 : decode cX5_handleRoutine 66 = .ok (.ifCond .eq 6, 3) := by decide +kernel
theorem dX5_handleRoutine_69 : decode cX5_handleRoutine 69 = .ok (.iload 4, 2) := by decide +kernel
theorem dX5_handleRoutine_71 : decode cX5_handleRoutine 71 = .ok (.ireturn, 1) := by decide +kernel
theorem dX5_handleRoutine_72 : decode cX5_handleRoutine 72 = .ok (.aload_n 0, 1) := by decide +kernel
theorem dX5_handleRoutine_73 : decode cX5_handleRoutine 73 = .ok (.aload_n 1, 1) := by decide +kernel
theorem dX5_handleRoutine_74 : decode cX5_handleRoutine 74 = .ok (.invokevirtual 242, 3) := by decide +kernel
theorem dX5_handleRoutine_77 : decode cX5_handleRoutine 77 = .ok (.aload_n 0, 1) := by decide +kernel
theorem dX5_handleRoutine_78 : decode cX5_handleRoutine 78 = .ok (.getfield 67, 3) := by decide +kernel
theorem dX5_handleRoutine_81 : decode cX5_handleRoutine 81 = .ok (.iload_n 2, 1) := by decide +kernel
theorem dX5_handleRoutine_82 : decode cX5_handleRoutine 82 = .ok (.invokevirtual 190, 3) := by decide +kernel
theorem dX5_handleRoutine_85 : decode cX5_handleRoutine 85 = .ok (.aload_n 0, 1) := by decide +kernel
theorem dX5_handleRoutine_86 : decode cX5_handleRoutine 86 = .ok (.getfield 67, 3) := by decide +kernel
theorem dX5_handleRoutine_89 : decode cX5_handleRoutine 89 = .ok (.aload_n 3, 1) := by decide +kernel
theorem dX5_handleRoutine_90 : decode cX5_handleRoutine 90 = .ok (.getfield 169, 3) := by decide +kernel
theorem dX5_handleRoutine_93 : decode cX5_handleRoutine 93 = .ok (.invokevirtual 265, 3) := by decide +kernel
theorem dX5_handleRoutine_96 : decode cX5_handleRoutine 96 = .ok (.aload_n 0, 1) := by decide +kernel
theorem dX5_handleRoutine_97 : decode cX5_handleRoutine 97 = .ok (.getfield 67, 3) := by decide +kernel
theorem dX5_handleRoutine_100 : decode cX5_handleRoutine 100 = .ok (.aload_n 3, 1) := by decide +kernel
theorem dX5_handleRoutine_101 : decode cX5_handleRoutine 101 = .ok (.getfield 286, 3) := by decide +kernel
theorem dX5_handleRoutine_104 : decode cX5_handleRoutine 104 = .ok (.invokevirtual 190, 3) := by decide +kernel
theorem dX5_handleRoutine_107 : decode cX5_handleRoutine 107 = .ok (.iconst 0, 1) := by decide +kernel
theorem dX5_handleRoutine_108 : decode cX5_handleRoutine 108 = .ok (.ireturn, 1) := by decide +kernel
theorem dX5_applyToRoutine_0 : decode cX5_applyToRoutine 0 = .ok (.iload_n 2, 1) := by decide +kernel
theorem dX5_applyToRoutine_1 : decode cX5_applyToRoutine 1 = .ok (.iconst 1, 1) := by decide +kernel
theorem dX5_applyToRoutine_2 : decode cX5_applyToRoutine 2 = .ok (.if_icmp .ne 9, 3) := by decide +kernel
theorem dX5_applyToRoutine_5 : decode cX5_applyToRoutine 5 = .ok (.aload_n 0, 1) := by decide +kernel
theorem dX5_applyToRoutine_6 : decode cX5_applyToRoutine 6 = .ok (.aload_n 1, 1) := by decide +kernel
theorem dX5_applyToRoutine_7 : decode cX5_applyToRoutine 7 = .ok (.invokevirtual 289, 3) := by decide +kernel
theorem dX5_applyToRoutine_10 : decode cX5_applyToRoutine 10 = .ok (.ireturn, 1) := by decide +kernel
theorem dX5_applyToRoutine_11 : decode cX5_applyToRoutine 11 = .ok (.aload_n 1, 1) := by decide +kernel
theorem dX5_applyToRoutine_12 : decode cX5_applyToRoutine 12 = .ok (.getfield 293, 3) := by decide +kernel
theorem dX5_applyToRoutine_15 : decode cX5_applyToRoutine 15 = .ok (.ifCond .ne 6, 3) := by decide +kernel
theorem dX5_applyToRoutine_18 : decode cX5_applyToRoutine 18 = .ok (.bipush 36, 2) := by decide +kernel
theorem dX5_applyToRoutine_20 : decode cX5_applyToRoutine 20 = .ok (.ireturn, 1) := by decide +kernel
theorem dX5_applyToRoutine_21 : decode cX5_applyToRoutine 21 = .ok (.iload_n 2, 1) := by decide +kernel
theorem dX5_applyToRoutine_22 : decode cX5_applyToRoutine 22 = .ok (.iconst 2, 1) := by decide +kernel
theorem dX5_applyToRoutine_23 : decode cX5_applyToRoutine 23 = .ok (.if_icmp .ne 10, 3) := by decide +kernel
theorem dX5_applyToRoutine_26 : decode cX5_applyToRoutine 26 = .ok (.aload_n 1, 1) := by decide +kernel
theorem dX5_applyToRoutine_27 : decode cX5_applyToRoutine 27 = .ok (.iconst 0, 1) := by decide +kernel
theorem dX5_applyToRoutine_28 : decode cX5_applyToRoutine 28 = .ok (.putfield 286, 3) := by decide +kernel
theorem dX5_applyToRoutine_31 : decode cX5_applyToRoutine 31 = .ok (.iconst 0, 1) := by decide +kernel
theorem dX5_applyToRoutine_32 : decode cX5_applyToRoutine 32 = .ok (.ireturn, 1) := by decide +kernel
theorem dX5_applyToRoutine_33 : decode cX5_applyToRoutine 33 = .ok (.aload_n 0, 1) := by decide +kernel
theorem dX5_applyToRoutine_34 : decode cX5_applyToRoutine 34 = .ok (.aload_n 1, 1) := by decide +kernel
theorem dX5_applyToRoutine_35 : decode cX5_applyToRoutine 35 = .ok (.invokevirtual 296, 3) := by decide +kernel
theorem dX5_applyToRoutine_38 : decode cX5_applyToRoutine 38 = .ok (.ireturn, 1) := by decide +kernel
theorem dX5_startRoutine_0 : decode cX5_startRoutine 0 = .ok (.aload_n 1, 1) := by decide +kernel
theorem dX5_startRoutine_1 : decode cX5_startRoutine 1 = .ok (.getfield 286, 3) := by decide +kernel
theorem dX5_startRoutine_4 : decode cX5_startRoutine 4 = .ok (.ifCond .le 6, 3) := by decide +kernel
theorem dX5_startRoutine_7 : decode cX5_startRoutine 7 = .ok (.bipush 36, 2) := by decide +kernel
theorem dX5_startRoutine_9 : decode cX5_startRoutine 9 = .ok (.ireturn, 1) := by decide +kernel
theorem dX5_startRoutine_10 : decode cX5_startRoutine 10 = .ok (.aload_n 0, 1) := by decide +kernel
theorem dX5_startRoutine_11 : decode cX5_startRoutine 11 = .ok (.getfield 28, 3) := by decide +kernel
theorem dX5_startRoutine_14 : decode cX5_startRoutine 14 = .ok (.ifCond .ne 6, 3) := by decide +kernel
theorem dX5_startRoutine_17 : decode cX5_startRoutine 17 = .ok (.bipush 34, 2) := by decide +kernel
theorem dX5_startRoutine_19 : decode cX5_startRoutine 19 = .ok (.ireturn, 1) := by decide +kernel
theorem dX5_startRoutine_20 : decode cX5_startRoutine 20 = .ok (.aload_n 1, 1) := by decide +kernel
theorem dX5_startRoutine_21 : decode cX5_startRoutine 21 = .ok (.invokevirtual 299, 3) := by decide +kernel
theorem dX5_startRoutine_24 : decode cX5_startRoutine 24 = .ok (.iconst 0, 1) := by decide +kernel
theorem dX5_startRoutine_25 : decode cX5_startRoutine 25 = .ok (.ireturn, 1) := by decide +kernel
theorem dX5_askResult_0 : decode cX5_askResult 0 = .ok (.aload_n 1, 1) := by decide +kernel
theorem dX5_askResult_1 : decode cX5_askResult 1 = .ok (.getfield 286, 3) := by decide +kernel
theorem dX5_askResult_4 : decode cX5_askResult 4 = .ok (.ifCond .ne 5, 3) := by decide +kernel
theorem dX5_askResult_7 : decode cX5_askResult 7 = .ok (.iconst 0, 1) := by decide +kernel
theorem dX5_askResult_8 : decode cX5_askResult 8 = .ok (.ireturn, 1) := by decide +kernel
theorem dX5_askResult_9 : decode cX5_askResult 9 = .ok (.aload_n 1, 1) := by decide +kernel
theorem dX5_askResult_10 : decode cX5_askResult 10 = .ok (.getfield 302, 3) := by decide +kernel
theorem dX5_askResult_13 : decode cX5_askResult 13 = .ok (.aload_n 0, 1) := by decide +kernel
theorem dX5_askResult_14 : decode cX5_askResult 14 = .ok (.getfield 41, 3) := by decide +kernel
theorem dX5_askResult_17 : decode cX5_askResult 17 = .ok (.if_icmp .lt 6, 3) := by decide +kernel
theorem dX5_askResult_20 : decode cX5_askResult 20 = .ok (.bipush 16, 2) := by decide +kernel
theorem dX5_askResult_22 : decode cX5_askResult 22 = .ok (.ireturn, 1) := by decide +kernel
theorem dX5_askResult_23 : decode cX5_askResult 23 = .ok (.aload_n 1, 1) := by decide +kernel
theorem dX5_askResult_24 : decode cX5_askResult 24 = .ok (.dup, 1) := by decide +kernel
theorem dX5_askResult_25 : decode cX5_askResult 25 = .ok (.getfield 302, 3) := by decide +kernel
theorem dX5_askResult_28 : decode cX5_askResult 28 = .ok (.iconst 1, 1) := by decide +kernel
theorem dX5_askResult_29 : decode cX5_askResult 29 = .ok (.iadd, 1) := by decide +kernel
theorem dX5_askResult_30 : decode cX5_askResult 30 = .ok (.putfield 302, 3) := by decide +kernel
theorem dX5_askResult_33 : decode cX5_askResult 33 = .ok (.bipush 120, 2) := by decide +kernel
theorem dX5_askResult_35 : decode cX5_askResult 35 = .ok (.ireturn, 1) := by decide +kernel
theorem dX5_openTransfer_0 : decode cX5_openTransfer 0 = .ok (.aload_n 0, 1) := by decide +kernel
theorem dX5_openTransfer_1 : decode cX5_openTransfer 1 = .ok (.getfield 35, 3) := by decide +kernel
theorem dX5_openTransfer_4 : decode cX5_openTransfer 4 = .ok (.iconst 3, 1) := by decide +kernel
theorem dX5_openTransfer_5 : decode cX5_openTransfer 5 = .ok (.if_icmp .eq 6, 3) := by decide +kernel
theorem dX5_openTransfer_8 : decode cX5_openTransfer 8 = .ok (.bipush 127, 2) := by decide +kernel
theorem dX5_openTransfer_10 : decode cX5_openTransfer 10 = .ok (.ireturn, 1) := by decide +kernel
theorem dX5_openTransfer_11 : decode cX5_openTransfer 11 = .ok (.aload_n 1, 1) := by decide +kernel
theorem dX5_openTransfer_12 : decode cX5_openTransfer 12 = .ok (.invokevirtual 236, 3) := by decide +kernel
theorem dX5_openTransfer_15 : decode cX5_openTransfer 15 = .ok (.iconst 2, 1) := by decide +kernel
theorem dX5_openTransfer_16 : decode cX5_openTransfer 16 = .ok (.if_icmp .eq 6, 3) := by decide +kernel
theorem dX5_openTransfer_19 : decode cX5_openTransfer 19 = .ok (.bipush 19, 2) := by decide +kernel
theorem dX5_openTransfer_21 : decode cX5_openTransfer 21 = .ok (.ireturn, 1) := by decide +kernel
theorem dX5_openTransfer_22 : decode cX5_openTransfer 22 = .ok (.aload_n 0, 1) := by decide +kernel
theorem dX5_openTransfer_23 : decode cX5_openTransfer 23 = .ok (.getfield 74, 3) := by decide +kernel
theorem dX5_openTransfer_26 : decode cX5_openTransfer 26 = .ok (.getfield 305, 3) := by decide +kernel
theorem dX5_openTransfer_29 : decode cX5_openTransfer 29 = .ok (.ifCond .eq 6, 3) := by decide +kernel
theorem dX5_openTransfer_32 : decode cX5_openTransfer 32 = .ok (.bipush 112, 2) := by decide +kernel
theorem dX5_openTransfer_34 : decode cX5_openTransfer 34 = .ok (.ireturn, 1) := by decide +kernel
theorem dX5_openTransfer_35 : decode cX5_openTransfer 35 = .ok (.aload_n 1, 1) := by decide +kernel
theorem dX5_openTransfer_36 : decode cX5_openTransfer 36 = .ok (.iconst 0, 1) := by decide +kernel
theorem dX5_openTransfer_37 : decode cX5_openTransfer 37 = .ok (.invokevirtual 254, 3) := by decide +kernel
theorem dX5_openTransfer_40 : decode cX5_openTransfer 40 = .ok (.istore_n 2, 1) := by decide +kernel
theorem dX5_openTransfer_41 : decode cX5_openTransfer 41 = .ok (.iload_n 2, 1) := by decide +kernel
theorem dX5_openTransfer_42 : decode cX5_openTransfer 42 = .ok (.iconst 1, 1) := by decide +kernel
theorem dX5_openTransfer_43 : decode cX5_openTransfer 43 = .ok (.sipush 200, 3) := by decide +kernel
theorem dX5_openTransfer_46 : decode cX5_openTransfer 46 = .ok (.invokestatic 79, 3) := by decide +kernel
theorem dX5_openTransfer_49 : decode cX5_openTransfer 49 = .ok (.ifCond .ne 6, 3) := by decide +kernel
theorem dX5_openTransfer_52 : decode cX5_openTransfer 52 = .ok (.bipush 49, 2) := by decide +kernel
theorem dX5_openTransfer_54 : decode cX5_openTransfer 54 = .ok (.ireturn, 1) := by decide +kernel
theorem dX5_openTransfer_55 : decode cX5_openTransfer 55 = .ok (.aload_n 0, 1) := by decide +kernel
theorem dX5_openTransfer_56 : decode cX5_openTransfer 56 = .ok (.getfield 74, 3) := by decide +kernel
theorem dX5_openTransfer_59 : decode cX5_openTransfer 59 = .ok (.iload_n 2, 1) := by decide +kernel
theorem dX5_openTransfer_60 : decode cX5_openTransfer 60 = .ok (.invokevirtual 308, 3) := by decide +kernel
theorem dX5_openTransfer_63 : decode cX5_openTransfer 63 = .ok (.aload_n 0, 1) := by decide +kernel
theorem dX5_openTransfer_64 : decode cX5_openTransfer 64 = .ok (.aload_n 1, 1) := by decide +kernel
theorem dX5_openTransfer_65 : decode cX5_openTransfer 65 = .ok (.invokevirtual 242, 3) := by decide +kernel
theorem dX5_openTransfer_68 : decode cX5_openTransfer 68 = .ok (.aload_n 0, 1) := by decide +kernel
theorem dX5_openTransfer_69 : decode cX5_openTransfer 69 = .ok (.getfield 67, 3) := by decide +kernel
theorem dX5_openTransfer_72 : decode cX5_openTransfer 72 = .ok (.bipush 8, 2) := by decide +kernel
theorem dX5_openTransfer_74 : decode cX5_openTransfer 74 = .ok (.invokevirtual 190, 3) := by decide +kernel
theorem dX5_openTransfer_77 : decode cX5_openTransfer 77 = .ok (.iconst 0, 1) := by decide +kernel
theorem dX5_openTransfer_78 : decode cX5_openTransfer 78 = .ok (.ireturn, 1) := by decide +kernel
theorem dX5_takeBlock_0 : decode cX5_takeBlock 0 = .ok (.aload_n 0, 1) := by decide +kernel
theorem dX5_takeBlock_1 : decode cX5_takeBlock 1 = .ok (.getfield 35, 3) := by decide +kernel
theorem dX5_takeBlock_4 : decode cX5_takeBlock 4 = .ok (.iconst 3, 1) := by decide +kernel
theorem dX5_takeBlock_5 : decode cX5_takeBlock 5 = .ok (.if_icmp .eq 6, 3) := by decide +kernel
theorem dX5_takeBlock_8 : decode cX5_takeBlock 8 = .ok (.bipush 127, 2) := by decide +kernel
theorem dX5_takeBlock_10 : decode cX5_takeBlock 10 = .ok (.ireturn, 1) := by decide +kernel
theorem dX5_takeBlock_11 : decode cX5_takeBlock 11 = .ok (.aload_n 1, 1) := by decide +kernel
theorem dX5_takeBlock_12 : decode cX5_takeBlock 12 = .ok (.invokevirtual 236, 3) := by decide +kernel
theorem dX5_takeBlock_15 : decode cX5_takeBlock 15 = .ok (.iconst 1, 1) := by decide +kernel
theorem dX5_takeBlock_16 : decode cX5_takeBlock 16 = .ok (.isub, 1) := by decide +kernel
theorem dX5_takeBlock_17 : decode cX5_takeBlock 17 = .ok (.istore_n 2, 1) := by decide +kernel
theorem dX5_takeBlock_18 : decode cX5_takeBlock 18 = .ok (.iload_n 2, 1) := by decide +kernel
theorem dX5_takeBlock_19 : decode cX5_takeBlock 19 = .ok (.iconst 1, 1) := by decide +kernel
theorem dX5_takeBlock_20 : decode cX5_takeBlock 20 = .ok (.bipush 8, 2) := by decide +kernel
theorem dX5_takeBlock_22 : decode cX5_takeBlock 22 = .ok (.invokestatic 79, 3) := by decide +kernel
theorem dX5_takeBlock_25 : decode cX5_takeBlock 25 = .ok (.ifCond .ne 6, 3) := by decide +kernel
theorem dX5_takeBlock_28 : decode cX5_takeBlock 28 = .ok (.bipush 19, 2) := by decide +kernel
theorem dX5_takeBlock_30 : decode cX5_takeBlock 30 = .ok (.ireturn, 1) := by decide +kernel
theorem dX5_takeBlock_31 : decode cX5_takeBlock 31 = .ok (.aload_n 0, 1) := by decide +kernel
theorem dX5_takeBlock_32 : decode cX5_takeBlock 32 = .ok (.getfield 74, 3) := by decide +kernel
theorem dX5_takeBlock_35 : decode cX5_takeBlock 35 = .ok (.getfield 305, 3) := by decide +kernel
theorem dX5_takeBlock_38 : decode cX5_takeBlock 38 = .ok (.ifCond .ne 6, 3) := by decide +kernel
theorem dX5_takeBlock_41 : decode cX5_takeBlock 41 = .ok (.bipush 36, 2) := by decide +kernel
theorem dX5_takeBlock_43 : decode cX5_takeBlock 43 = .ok (.ireturn, 1) := by decide +kernel
theorem dX5_takeBlock_44 : decode cX5_takeBlock 44 = .ok (.aload_n 1, 1) := by decide +kernel
theorem dX5_takeBlock_45 : decode cX5_takeBlock 45 = .ok (.iconst 0, 1) := by decide +kernel
theorem dX5_takeBlock_46 : decode cX5_takeBlock 46 = .ok (.invokevirtual 273, 3) := by decide +kernel
theorem dX5_takeBlock_49 : decode cX5_takeBlock 49 = .ok (.istore_n 3, 1) := by decide +kernel
theorem dX5_takeBlock_50 : decode cX5_takeBlock 50 = .ok (.aload_n 0, 1) := by decide +kernel
theorem dX5_takeBlock_51 : decode cX5_takeBlock 51 = .ok (.getfield 74, 3) := by decide +kernel
theorem dX5_takeBlock_54 : decode cX5_takeBlock 54 = .ok (.iload_n 3, 1) := by decide +kernel
theorem dX5_takeBlock_55 : decode cX5_takeBlock 55 = .ok (.invokevirtual 311, 3) := by decide +kernel
theorem dX5_takeBlock_58 : decode cX5_takeBlock 58 = .ok (.ifCond .ne 40, 3) := by decide +kernel
theorem dX5_takeBlock_61 : decode cX5_takeBlock 61 = .ok (.iload_n 3, 1) := by decide +kernel
theorem dX5_takeBlock_62 : decode cX5_takeBlock 62 = .ok (.aload_n 0, 1) := by decide +kernel
theorem dX5_takeBlock_63 : decode cX5_takeBlock 63 = .ok (.getfield 74, 3) := by decide +kernel
theorem dX5_takeBlock_66 : decode cX5_takeBlock 66 = .ok (.invokevirtual 314, 3) := by decide +kernel
theorem dX5_takeBlock_69 : decode cX5_takeBlock 69 = .ok (.if_icmp .eq 6, 3) := by decide +kernel
theorem dX5_takeBlock_72 : decode cX5_takeBlock 72 = .ok (.bipush 115, 2) := by decide +kernel
theorem dX5_takeBlock_74 : decode cX5_takeBlock 74 = .ok (.ireturn, 1) := by decide +kernel
theorem dX5_takeBlock_75 : decode cX5_takeBlock 75 = .ok (.iload_n 2, 1) := by decide +kernel
theorem dX5_takeBlock_76 : decode cX5_takeBlock 76 = .ok (.aload_n 0, 1) := by decide +kernel
theorem dX5_takeBlock_77 : decode cX5_takeBlock 77 = .ok (.getfield 74, 3) := by decide +kernel
theorem dX5_takeBlock_80 : decode cX5_takeBlock 80 = .ok (.getfield 148, 3) := by decide +kernel
theorem dX5_takeBlock_83 : decode cX5_takeBlock 83 = .ok (.if_icmp .le 6, 3) := by decide +kernel
theorem dX5_takeBlock_86 : decode cX5_takeBlock 86 = .ok (.bipush 113, 2) := by decide +kernel
theorem dX5_takeBlock_88 : decode cX5_takeBlock 88 = .ok (.ireturn, 1) := by decide +kernel
theorem dX5_takeBlock_89 : decode cX5_takeBlock 89 = .ok (.aload_n 0, 1) := by decide +kernel
theorem dX5_takeBlock_90 : decode cX5_takeBlock 90 = .ok (.getfield 74, 3) := by decide +kernel
theorem dX5_takeBlock_93 : decode cX5_takeBlock 93 = .ok (.aload_n 1, 1) := by decide +kernel
theorem dX5_takeBlock_94 : decode cX5_takeBlock 94 = .ok (.iload_n 2, 1) := by decide +kernel
theorem dX5_takeBlock_95 : decode cX5_takeBlock 95 = .ok (.invokevirtual 317, 3) := by decide +kernel
theorem dX5_takeBlock_98 : decode cX5_takeBlock 98 = .ok (.aload_n 0, 1) := by decide +kernel
theorem dX5_takeBlock_99 : decode cX5_takeBlock 99 = .ok (.aload_n 1, 1) := by decide +kernel
theorem dX5_takeBlock_100 : decode cX5_takeBlock 100 = .ok (.invokevirtual 242, 3) := by decide +kernel
theorem dX5_takeBlock_103 : decode cX5_takeBlock 103 = .ok (.aload_n 0, 1) := by decide +kernel
theorem dX5_takeBlock_104 : decode cX5_takeBlock 104 = .ok (.getfield 67, 3) := by decide +kernel
theorem dX5_takeBlock_107 : decode cX5_takeBlock 107 = .ok (.iload_n 3, 1) := by decide +kernel
theorem dX5_takeBlock_108 : decode cX5_takeBlock 108 = .ok (.invokevirtual 190, 3) := by decide +kernel
theorem dX5_takeBlock_111 : decode cX5_takeBlock 111 = .ok (.iconst 0, 1) := by decide +kernel
theorem dX5_takeBlock_112 : decode cX5_takeBlock 112 = .ok (.ireturn, 1) := by decide +kernel
theorem dX5_closeTransfer_0 : decode cX5_closeTransfer 0 = .ok (.aload_n 0, 1) := by decide +kernel
theorem dX5_closeTransfer_1 : decode cX5_closeTransfer 1 = .ok (.getfield 35, 3) := by decide +kernel
theorem dX5_closeTransfer_4 : decode cX5_closeTransfer 4 = .ok (.iconst 3, 1) := by decide +kernel
theorem dX5_closeTransfer_5 : decode cX5_closeTransfer 5 = .ok (.if_icmp .eq 6, 3) := by decide +kernel
theorem dX5_closeTransfer_8 : decode cX5_closeTransfer 8 = .ok (.bipush 127, 2) := by decide +kernel
theorem dX5_closeTransfer_10 : decode cX5_closeTransfer 10 = .ok (.ireturn, 1) := by decide +kernel
theorem dX5_closeTransfer_11 : decode cX5_closeTransfer 11 = .ok (.aload_n 1, 1) := by decide +kernel
theorem dX5_closeTransfer_12 : decode cX5_closeTransfer 12 = .ok (.invokevirtual 236, 3) := by decide +kernel
theorem dX5_closeTransfer_15 : decode cX5_closeTransfer 15 = .ok (.ifCond .eq 6, 3) := by decide +kernel
theorem dX5_closeTransfer_18 : decode cX5_closeTransfer 18 = .ok (.bipush 19, 2) := by decide +kernel
theorem dX5_closeTransfer_20 : decode cX5_closeTransfer 20 = .ok (.ireturn, 1) := by decide +kernel
theorem dX5_closeTransfer_21 : decode cX5_closeTransfer 21 = .ok (.aload_n 0, 1) := by decide +kernel
theorem dX5_closeTransfer_22 : decode cX5_closeTransfer 22 = .ok (.getfield 74, 3) := by decide +kernel
theorem dX5_closeTransfer_25 : decode cX5_closeTransfer 25 = .ok (.getfield 305, 3) := by decide +kernel
theorem dX5_closeTransfer_28 : decode cX5_closeTransfer 28 = .ok (.ifCond .eq 13, 3) := by decide +kernel
theorem dX5_closeTransfer_31 : decode cX5_closeTransfer 31 = .ok (.aload_n 0, 1) := by decide +kernel
theorem dX5_closeTransfer_32 : decode cX5_closeTransfer 32 = .ok (.getfield 74, 3) := by decide +kernel
theorem dX5_closeTransfer_35 : decode cX5_closeTransfer 35 = .ok (.getfield 148, 3) := by decide +kernel
theorem dX5_closeTransfer_38 : decode cX5_closeTransfer 38 = .ok (.ifCond .le 6, 3) := by decide +kernel
theorem dX5_closeTransfer_41 : decode cX5_closeTransfer 41 = .ok (.bipush 36, 2) := by decide +kernel
theorem dX5_closeTransfer_43 : decode cX5_closeTransfer 43 = .ok (.ireturn, 1) := by decide +kernel
theorem dX5_closeTransfer_44 : decode cX5_closeTransfer 44 = .ok (.aload_n 0, 1) := by decide +kernel
theorem dX5_closeTransfer_45 : decode cX5_closeTransfer 45 = .ok (.getfield 74, 3) := by decide +kernel
theorem dX5_closeTransfer_48 : decode cX5_closeTransfer 48 = .ok (.getfield 321, 3) := by decide +kernel
theorem dX5_closeTransfer_51 : decode cX5_closeTransfer 51 = .ok (.istore_n 2, 1) := by decide +kernel
theorem dX5_closeTransfer_52 : decode cX5_closeTransfer 52 = .ok (.aload_n 0, 1) := by decide +kernel
theorem dX5_closeTransfer_53 : decode cX5_closeTransfer 53 = .ok (.getfield 74, 3) := by decide +kernel
theorem dX5_closeTransfer_56 : decode cX5_closeTransfer 56 = .ok (.invokevirtual 174, 3) := by decide +kernel
theorem dX5_closeTransfer_59 : decode cX5_closeTransfer 59 = .ok (.aload_n 0, 1) := by decide +kernel
theorem dX5_closeTransfer_60 : decode cX5_closeTransfer 60 = .ok (.aload_n 1, 1) := by decide +kernel
theorem dX5_closeTransfer_61 : decode cX5_closeTransfer 61 = .ok (.invokevirtual 242, 3) := by decide +kernel
theorem dX5_closeTransfer_64 : decode cX5_closeTransfer 64 = .ok (.aload_n 0, 1) := by decide +kernel
theorem dX5_closeTransfer_65 : decode cX5_closeTransfer 65 = .ok (.getfield 67, 3) := by decide +kernel
theorem dX5_closeTransfer_68 : decode cX5_closeTransfer 68 = .ok (.iload_n 2, 1) := by decide +kernel
theorem dX5_closeTransfer_69 : decode cX5_closeTransfer 69 = .ok (.invokevirtual 265, 3) := by decide +kernel
theorem dX5_closeTransfer_72 : decode cX5_closeTransfer 72 = .ok (.iconst 0, 1) := by decide +kernel
theorem dX5_closeTransfer_73 : decode cX5_closeTransfer 73 = .ok (.ireturn, 1) := by decide +kernel
theorem dX5_beginReply_0 : decode cX5_beginReply 0 = .ok (.aload_n 0, 1) := by decide +kernel
theorem dX5_beginReply_1 : decode cX5_beginReply 1 = .ok (.getfield 67, 3) := by decide +kernel
theorem dX5_beginReply_4 : decode cX5_beginReply 4 = .ok (.aload_n 1, 1) := by decide +kernel
theorem dX5_beginReply_5 : decode cX5_beginReply 5 = .ok (.invokevirtual 193, 3) := by decide +kernel
theorem dX5_beginReply_8 : decode cX5_beginReply 8 = .ok (.bipush 64, 2) := by decide +kernel
theorem dX5_beginReply_10 : decode cX5_beginReply 10 = .ok (.iadd, 1) := by decide +kernel
theorem dX5_beginReply_11 : decode cX5_beginReply 11 = .ok (.invokevirtual 190, 3) := by decide +kernel
theorem dX5_beginReply_14 : decode cX5_beginReply 14 = .ok (.return_, 1) := by decide +kernel
end
section
theorem dX6_init_0 : decode cX6_init 0 = .ok (.aload_n 0, 1) := by decide +kernel
theorem dX6_init_1 : decode cX6_init 1 = .ok (.invokespecial 1, 3) := by decide +kernel
theorem dX6_init_4 : decode cX6_init 4 = .ok (.aload_n 0, 1) := by decide +kernel
theorem dX6_init_5 : decode cX6_init 5 = .ok (.iconst 1, 1) := by decide +kernel
theorem dX6_init_6 : decode cX6_init 6 = .ok (.putfield 7, 3) := by decide +kernel
theorem dX6_init_9 : decode cX6_init 9 = .ok (.aload_n 0, 1) := by decide +kernel
theorem dX6_init_10 : decode cX6_init 10 = .ok (.iconst 1, 1) := by decide +kernel
theorem dX6_init_11 : decode cX6_init 11 = .ok (.putfield 13, 3) := by decide +kernel
theorem dX6_init_14 : decode cX6_init 14 = .ok (.aload_n 0, 1) := by decide +kernel
theorem dX6_init_15 : decode cX6_init 15 = .ok (.iconst 1, 1) := by decide +kernel
theorem dX6_init_16 : decode cX6_init 16 = .ok (.putfield 17, 3) := by decide +kernel
theorem dX6_init_19 : decode cX6_init 19 = .ok (.aload_n 0, 1) := by decide +kernel
theorem dX6_init_20 : decode cX6_init 20 = .ok (.bipush 40, 2) := by decide +kernel
theorem dX6_init_22 : decode cX6_init 22 = .ok (.newarray .int, 2) := by decide +kernel
theorem dX6_init_24 : decode cX6_init 24 = .ok (.putfield 20, 3) := by decide +kernel
theorem dX6_init_27 : decode cX6_init 27 = .ok (.aload_n 0, 1) := by decide +kernel
theorem dX6_init_28 : decode cX6_init 28 = .ok (.bipush 40, 2) := by decide +kernel
theorem dX6_init_30 : decode cX6_init 30 = .ok (.newarray .int, 2) := by decide +kernel
theorem dX6_init_32 : decode cX6_init 32 = .ok (.putfield 24, 3) := by decide +kernel
theorem dX6_init_35 : decode cX6_init 35 = .ok (.aload_n 0, 1) := by decide +kernel
theorem dX6_init_36 : decode cX6_init 36 = .ok (.bipush 40, 2) := by decide +kernel
theorem dX6_init_38 : decode cX6_init 38 = .ok (.newarray .int, 2) := by decide +kernel
theorem dX6_init_40 : decode cX6_init 40 = .ok (.putfield 27, 3) := by decide +kernel
theorem dX6_init_43 : decode cX6_init 43 = .ok (.aload_n 0, 1) := by decide +kernel
theorem dX6_init_44 : decode cX6_init 44 = .ok (.bipush 40, 2) := by decide +kernel
theorem dX6_init_46 : decode cX6_init 46 = .ok (.newarray .int, 2) := by decide +kernel
theorem dX6_init_48 : decode cX6_init 48 = .ok (.putfield 30, 3) := by decide +kernel
theorem dX6_init_51 : decode cX6_init 51 = .ok (.aload_n 0, 1) := by decide +kernel
theorem dX6_init_52 : decode cX6_init 52 = .ok (.bipush 40, 2) := by decide +kernel
theorem dX6_init_54 : decode cX6_init 54 = .ok (.newarray .long, 2) := by decide +kernel
theorem dX6_init_56 : decode cX6_init 56 = .ok (.putfield 33, 3) := by decide +kernel
theorem dX6_init_59 : decode cX6_init 59 = .ok (.aload_n 0, 1) := by decide +kernel
theorem dX6_init_60 : decode cX6_init 60 = .ok (.bipush 40, 2) := by decide +kernel
theorem dX6_init_62 : decode cX6_init 62 = .ok (.newarray .boolean, 2) := by decide +kernel
theorem dX6_init_64 : decode cX6_init 64 = .ok (.putfield 37, 3) := by decide +kernel
theorem dX6_init_67 : decode cX6_init 67 = .ok (.aload_n 0, 1) := by decide +kernel
theorem dX6_init_68 : decode cX6_init 68 = .ok (.bipush 40, 2) := by decide +kernel
theorem dX6_init_70 : decode cX6_init 70 = .ok (.newarray .long, 2) := by decide +kernel
theorem dX6_init_72 : decode cX6_init 72 = .ok (.putfield 41, 3) := by decide +kernel
theorem dX6_init_75 : decode cX6_init 75 = .ok (.aload_n 0, 1) := by decide +kernel
theorem dX6_init_76 : decode cX6_init 76 = .ok (.bipush 40, 2) := by decide +kernel
theorem dX6_init_78 : decode cX6_init 78 = .ok (.newarray .boolean, 2) := by decide +kernel
theorem dX6_init_80 : decode cX6_init 80 = .ok (.putfield 44, 3) := by decide +kernel
theorem dX6_init_83 : decode cX6_init 83 = .ok (.aload_n 0, 1) := by decide +kernel
theorem dX6_init_84 : decode cX6_init 84 = .ok (.bipush 40, 2) := by decide +kernel
theorem dX6_init_86 : decode cX6_init 86 = .ok (.newarray .boolean, 2) := by decide +kernel
theorem dX6_init_88 : decode cX6_init 88 = .ok (.putfield 47, 3) := by decide +kernel
theorem dX6_init_91 : decode cX6_init 91 = .ok (.aload_n 0, 1) := by decide +kernel
theorem dX6_init_92 : decode cX6_init 92 = .ok (.sipush 320, 3) := by decide +kernel
theorem dX6_init_95 : decode cX6_init 95 = .ok (.newarray .int, 2) := by decide +kernel
theorem dX6_init_97 : decode cX6_init 97 = .ok (.putfield 50, 3) := by decide +kernel
theorem dX6_init_100 : decode cX6_init 100 = .ok (.aload_n 0, 1) := by decide +kernel
theorem dX6_init_101 : decode cX6_init 101 = .ok (.sipush 320, 3) := by decide +kernel
theorem dX6_init_104 : decode cX6_init 104 = .ok (.newarray .int, 2) := by decide +kernel
theorem dX6_init_106 : decode cX6_init 106 = .ok (.putfield 53, 3) := by decide +kernel
theorem dX6_init_109 : decode cX6_init 109 = .ok (.aload_n 0, 1) := by decide +kernel
theorem dX6_init_110 : decode cX6_init 110 = .ok (.bipush 10, 2) := by decide +kernel
theorem dX6_init_112 : decode cX6_init 112 = .ok (.newarray .int, 2) := by decide +kernel
theorem dX6_init_114 : decode cX6_init 114 = .ok (.putfield 56, 3) := by decide +kernel
theorem dX6_init_117 : decode cX6_init 117 = .ok (.aload_n 0, 1) := by decide +kernel
theorem dX6_init_118 : decode cX6_init 118 = .ok (.bipush 10, 2) := by decide +kernel
theorem dX6_init_120 : decode cX6_init 120 = .ok (.newarray .int, 2) := by decide +kernel
theorem dX6_init_122 : decode cX6_init 122 = .ok (.putfield 59, 3) := by decide +kernel
theorem dX6_init_125 : decode cX6_init 125 = .ok (.aload_n 0, 1) := by decide +kernel
theorem dX6_init_126 : decode cX6_init 126 = .ok (.bipush 10, 2) := by decide +kernel
theorem dX6_init_128 : decode cX6_init 128 = .ok (.newarray .boolean, 2) := by decide +kernel
theorem dX6_init_130 : decode cX6_init 130 = .ok (.putfield 62, 3) := by decide +kernel
theorem dX6_init_133 : decode cX6_init 133 = .ok (.aload_n 0, 1) := by decide +kernel
theorem dX6_init_134 : decode cX6_init 134 = .ok (.bipush 10, 2) := by decide +kernel
theorem dX6_init_136 : decode cX6_init 136 = .ok (.newarray .int, 2) := by decide +kernel
theorem dX6_init_138 : decode cX6_init 138 = .ok (.putfield 65, 3) := by decide +kernel
theorem dX6_init_141 : decode cX6_init 141 = .ok (.aload_n 0, 1) := by decide +kernel
theorem dX6_init_142 : decode cX6_init 142 = .ok (.bipush 10, 2) := by decide +kernel
theorem dX6_init_144 : decode cX6_init 144 = .ok (.newarray .int, 2) := by decide +kernel
theorem dX6_init_146 : decode cX6_init 146 = .ok (.putfield 68, 3) := by decide +kernel
theorem dX6_init_149 : decode cX6_init 149 = .ok (.aload_n 0, 1) := by decide +kernel
theorem dX6_init_150 : decode cX6_init 150 = .ok (.bipush 60, 2) := by decide +kernel
theorem dX6_init_152 : decode cX6_init 152 = .ok (.newarray .int, 2) := by decide +kernel
theorem dX6_init_154 : decode cX6_init 154 = .ok (.putfield 71, 3) := by decide +kernel
theorem dX6_init_157 : decode cX6_init 157 = .ok (.aload_n 0, 1) := by decide +kernel
theorem dX6_init_158 : decode cX6_init 158 = .ok (.bipush 60, 2) := by decide +kernel
theorem dX6_init_160 : decode cX6_init 160 = .ok (.newarray .int, 2) := by decide +kernel
theorem dX6_init_162 : decode cX6_init 162 = .ok (.putfield 74, 3) := by decide +kernel
theorem dX6_init_165 : decode cX6_init 165 = .ok (.aload_n 0, 1) := by decide +kernel
theorem dX6_init_166 : decode cX6_init 166 = .ok (.sipush 1000, 3) := by decide +kernel
theorem dX6_init_169 : decode cX6_init 169 = .ok (.newarray .int, 2) := by decide +kernel
theorem dX6_init_171 : decode cX6_init 171 = .ok (.putfield 77, 3) := by decide +kernel
theorem dX6_init_174 : decode cX6_init 174 = .ok (.aload_n 0, 1) := by decide +kernel
theorem dX6_init_175 : decode cX6_init 175 = .ok (.iconst (-1), 1) := by decide +kernel
theorem dX6_init_176 : decode cX6_init 176 = .ok (.putfield 80, 3) := by decide +kernel
theorem dX6_init_179 : decode cX6_init 179 = .ok (.return_, 1) := by decide +kernel
theorem dX6_thrown_0 : decode cX6_thrown 0 = .ok (.aload_n 0, 1) := by decide +kernel
theorem dX6_thrown_1 : decode cX6_thrown 1 = .ok (.getfield 83, 3) := by decide +kernel
theorem dX6_thrown_4 : decode cX6_thrown 4 = .ok (.ireturn, 1) := by decide +kernel
theorem dX6_find_0 : decode cX6_find 0 = .ok (.iconst 0, 1) := by decide +kernel
theorem dX6_find_1 : decode cX6_find 1 = .ok (.istore_n 2, 1) := by decide +kernel
theorem dX6_find_2 : decode cX6_find 2 = .ok (.iload_n 2, 1) := by decide +kernel
theorem dX6_find_3 : decode cX6_find 3 = .ok (.aload_n 0, 1) := by decide +kernel
theorem dX6_find_4 : decode cX6_find 4 = .ok (.getfield 86, 3) := by decide +kernel
theorem dX6_find_7 : decode cX6_find 7 = .ok (.if_icmp .ge 21, 3) := by decide +kernel
theorem dX6_find_10 : decode cX6_find 10 = .ok (.aload_n 0, 1) := by decide +kernel
theorem dX6_find_11 : decode cX6_find 11 = .ok (.getfield 20, 3) := by decide +kernel
theorem dX6_find_14 : decode cX6_find 14 = .ok (.iload_n 2, 1) := by decide +kernel
theorem dX6_find_15 : decode cX6_find 15 = .ok (.iaload, 1) := by decide +kernel
theorem dX6_find_16 : decode cX6_find 16 = .ok (.iload_n 1, 1) := by decide +kernel
theorem dX6_find_17 : decode cX6_find 17 = .ok (.if_icmp .ne 5, 3) := by decide +kernel
theorem dX6_find_20 : decode cX6_find 20 = .ok (.iload_n 2, 1) := by decide +kernel
theorem dX6_find_21 : decode cX6_find 21 = .ok (.ireturn, 1) := by decide +kernel
theorem dX6_find_22 : decode cX6_find 22 = .ok (.iinc 2 1, 3) := by decide +kernel
theorem dX6_find_25 : decode cX6_find 25 = .ok (.goto (-23), 3) := by decide +kernel
theorem dX6_find_28 : decode cX6_find 28 = .ok (.iconst (-1), 1) := by decide +kernel
theorem dX6_find_29 : decode cX6_find 29 = .ok (.ireturn, 1) := by decide +kernel
theorem dX6_isIn_0 : decode cX6_isIn 0 = .ok (.lload_n 0, 1) := by decide +kernel
theorem dX6_isIn_1 : decode cX6_isIn 1 = .ok (.lload_n 2, 1) := by decide +kernel
theorem dX6_isIn_2 : decode cX6_isIn 2 = .ok (.lcmp, 1) := by decide +kernel
theorem dX6_isIn_3 : decode cX6_isIn 3 = .ok (.ifCond .lt 14, 3) := by decide +kernel
theorem dX6_isIn_6 : decode cX6_isIn 6 = .ok (.lload_n 0, 1) := by decide +kernel
theorem dX6_isIn_7 : decode cX6_isIn 7 = .ok (.lload 4, 2) := by decide +kernel
theorem dX6_isIn_9 : decode cX6_isIn 9 = .ok (.lcmp, 1) := by decide +kernel
theorem dX6_isIn_10 : decode cX6_isIn 10 = .ok (.ifCond .gt 7, 3) := by decide +kernel
theorem dX6_isIn_13 : decode cX6_isIn 13 = .ok (.iconst 1, 1) := by decide +kernel
theorem dX6_isIn_14 : decode cX6_isIn 14 = .ok (.goto 4, 3) := by decide +kernel
theorem dX6_isIn_17 : decode cX6_isIn 17 = .ok (.iconst 0, 1) := by decide +kernel
theorem dX6_isIn_18 : decode cX6_isIn 18 = .ok (.ireturn, 1) := by decide +kernel
theorem dX6_add_0 : decode cX6_add 0 = .ok (.aload_n 0, 1) := by decide +kernel
theorem dX6_add_1 : decode cX6_add 1 = .ok (.getfield 20, 3) := by decide +kernel
theorem dX6_add_4 : decode cX6_add 4 = .ok (.aload_n 0, 1) := by decide +kernel
theorem dX6_add_5 : decode cX6_add 5 = .ok (.getfield 86, 3) := by decide +kernel
theorem dX6_add_8 : decode cX6_add 8 = .ok (.iload_n 1, 1) := by decide +kernel
theorem dX6_add_9 : decode cX6_add 9 = .ok (.iastore, 1) := by decide +kernel
theorem dX6_add_10 : decode cX6_add 10 = .ok (.aload_n 0, 1) := by decide +kernel
theorem dX6_add_11 : decode cX6_add 11 = .ok (.getfield 24, 3) := by decide +kernel
theorem dX6_add_14 : decode cX6_add 14 = .ok (.aload_n 0, 1) := by decide +kernel
theorem dX6_add_15 : decode cX6_add 15 = .ok (.getfield 86, 3) := by decide +kernel
theorem dX6_add_18 : decode cX6_add 18 = .ok (.iload_n 2, 1) := by decide +kernel
theorem dX6_add_19 : decode cX6_add 19 = .ok (.iastore, 1) := by decide +kernel
theorem dX6_add_20 : decode cX6_add 20 = .ok (.aload_n 0, 1) := by decide +kernel
theorem dX6_add_21 : decode cX6_add 21 = .ok (.getfield 27, 3) := by decide +kernel
theorem dX6_add_24 : decode cX6_add 24 = .ok (.aload_n 0, 1) := by decide +kernel
theorem dX6_add_25 : decode cX6_add 25 = .ok (.getfield 86, 3) := by decide +kernel
theorem dX6_add_28 : decode cX6_add 28 = .ok (.iload_n 3, 1) := by decide +kernel
theorem dX6_add_29 : decode cX6_add 29 = .ok (.iastore, 1) := by decide +kernel
theorem dX6_add_30 : decode cX6_add 30 = .ok (.aload_n 0, 1) := by decide +kernel
theorem dX6_add_31 : decode cX6_add 31 = .ok (.getfield 30, 3) := by decide +kernel
theorem dX6_add_34 : decode cX6_add 34 = .ok (.aload_n 0, 1) := by decide +kernel
theorem dX6_add_35 : decode cX6_add 35 = .ok (.getfield 86, 3) := by decide +kernel
theorem dX6_add_38 : decode cX6_add 38 = .ok (.iload 4, 2) := by decide +kernel
theorem dX6_add_40 : decode cX6_add 40 = .ok (.iastore, 1) := by decide +kernel
theorem dX6_add_41 : decode cX6_add 41 = .ok (.aload_n 0, 1) := by decide +kernel
theorem dX6_add_42 : decode cX6_add 42 = .ok (.dup, 1) := by decide +kernel
theorem dX6_add_43 : decode cX6_add 43 = .ok (.getfield 86, 3) := by decide +kernel
theorem dX6_add_46 : decode cX6_add 46 = .ok (.iconst 1, 1) := by decide +kernel
theorem dX6_add_47 : decode cX6_add 47 = .ok (.iadd, 1) := by decide +kernel
theorem dX6_add_48 : decode cX6_add 48 = .ok (.putfield 86, 3) := by decide +kernel
theorem dX6_add_51 : decode cX6_add 51 = .ok (.aload_n 0, 1) := by decide +kernel
theorem dX6_add_52 : decode cX6_add 52 = .ok (.getfield 86, 3) := by decide +kernel
theorem dX6_add_55 : decode cX6_add 55 = .ok (.ireturn, 1) := by decide +kernel
theorem dX6_identifier_0 : decode cX6_identifier 0 = .ok (.aload_n 0, 1) := by decide +kernel
theorem dX6_identifier_1 : decode cX6_identifier 1 = .ok (.iconst 0, 1) := by decide +kernel
theorem dX6_identifier_2 : decode cX6_identifier 2 = .ok (.putfield 83, 3) := by decide +kernel
theorem dX6_identifier_5 : decode cX6_identifier 5 = .ok (.iload_n 1, 1) := by decide +kernel
theorem dX6_identifier_6 : decode cX6_identifier 6 = .ok (.i2l, 1) := by decide +kernel
theorem dX6_identifier_7 : decode cX6_identifier 7 = .ok (.lconst 0, 1) := by decide +kernel
theorem dX6_identifier_8 : decode cX6_identifier 8 = .ok (.ldc2_w 89, 3) := by decide +kernel
theorem dX6_identifier_11 : decode cX6_identifier 11 = .ok (.invokestatic 91, 3) := by decide +kernel
theorem dX6_identifier_14 : decode cX6_identifier 14 = .ok (.ifCond .eq 40, 3) := by decide +kernel
theorem dX6_identifier_17 : decode cX6_identifier 17 = .ok (.iload_n 2, 1) := by decide +kernel
theorem dX6_identifier_18 : decode cX6_identifier 18 = .ok (.i2l, 1) := by decide +kernel
theorem dX6_identifier_19 : decode cX6_identifier 19 = .ok (.lconst 1, 1) := by decide +kernel
theorem dX6_identifier_20 : decode cX6_identifier 20 = .ok (.ldc2_w 95, 3) := by decide +kernel
theorem dX6_identifier_23 : decode cX6_identifier 23 = .ok (.invokestatic 91, 3) := by decide +kernel
theorem dX6_identifier_26 : decode cX6_identifier 26 = .ok (.ifCond .eq 28, 3) := by decide +kernel
theorem dX6_identifier_29 : decode cX6_identifier 29 = .ok (.iload_n 3, 1) := by decide +kernel
theorem dX6_identifier_30 : decode cX6_identifier 30 = .ok (.i2l, 1) := by decide +kernel
theorem dX6_identifier_31 : decode cX6_identifier 31 = .ok (.lconst 1, 1) := by decide +kernel
theorem dX6_identifier_32 : decode cX6_identifier 32 = .ok (.ldc2_w 97, 3) := by decide +kernel
theorem dX6_identifier_35 : decode cX6_identifier 35 = .ok (.invokestatic 91, 3) := by decide +kernel
theorem dX6_identifier_38 : decode cX6_identifier 38 = .ok (.ifCond .eq 16, 3) := by decide +kernel
theorem dX6_identifier_41 : decode cX6_identifier 41 = .ok (.iload 4, 2) := by decide +kernel
theorem dX6_identifier_43 : decode cX6_identifier 43 = .ok (.i2l, 1) := by decide +kernel
theorem dX6_identifier_44 : decode cX6_identifier 44 = .ok (.lconst 0, 1) := by decide +kernel
theorem dX6_identifier_45 : decode cX6_identifier 45 = .ok (.ldc2_w 97, 3) := by decide +kernel
theorem dX6_identifier_48 : decode cX6_identifier 48 = .ok (.invokestatic 91, 3) := by decide +kernel
theorem dX6_identifier_51 : decode cX6_identifier 51 = .ok (.ifCond .ne 6, 3) := by decide +kernel
theorem dX6_identifier_54 : decode cX6_identifier 54 = .ok (.bipush (-2), 2) := by decide +kernel
theorem dX6_identifier_56 : decode cX6_identifier 56 = .ok (.ireturn, 1) := by decide +kernel
theorem dX6_identifier_57 : decode cX6_identifier 57 = .ok (.aload_n 0, 1) := by decide +kernel
theorem dX6_identifier_58 : decode cX6_identifier 58 = .ok (.iload_n 1, 1) := by decide +kernel
theorem dX6_identifier_59 : decode cX6_identifier 59 = .ok (.invokevirtual 99, 3) := by decide +kernel
theorem dX6_identifier_62 : decode cX6_identifier 62 = .ok (.ifCond .lt 6, 3) := by decide +kernel
theorem dX6_identifier_65 : decode cX6_identifier 65 = .ok (.bipush (-3), 2) := by decide +kernel
theorem dX6_identifier_67 : decode cX6_identifier 67 = .ok (.ireturn, 1) := by decide +kernel
theorem dX6_identifier_68 : decode cX6_identifier 68 = .ok (.aload_n 0, 1) := by decide +kernel
theorem dX6_identifier_69 : decode cX6_identifier 69 = .ok (.getfield 86, 3) := by decide +kernel
theorem dX6_identifier_72 : decode cX6_identifier 72 = .ok (.bipush 40, 2) := by decide +kernel
theorem dX6_identifier_74 : decode cX6_identifier 74 = .ok (.if_icmp .ne 8, 3) := by decide +kernel
theorem dX6_identifier_77 : decode cX6_identifier 77 = .ok (.bipush (-4), 2) := by decide +kernel
theorem dX6_identifier_79 : decode cX6_identifier 79 = .ok (.goto 12, 3) := by decide +kernel
theorem dX6_identifier_82 : decode cX6_identifier 82 = .ok (.aload_n 0, 1) := by decide +kernel
theorem dX6_identifier_83 : decode cX6_identifier 83 = .ok (.iload_n 1, 1) := by decide +kernel
theorem dX6_identifier_84 : decode cX6_identifier 84 = .ok (.iload_n 2, 1) := by decide +kernel
theorem dX6_identifier_85 : decode cX6_identifier 85 = .ok (.iload_n 3, 1) := by decide +kernel
theorem dX6_identifier_86 : decode cX6_identifier 86 = .ok (.iload 4, 2) := by decide +kernel
theorem dX6_identifier_88 : decode cX6_identifier 88 = .ok (.invokevirtual 103, 3) := by decide +kernel
theorem dX6_identifier_91 : decode cX6_identifier 91 = .ok (.ireturn, 1) := by decide +kernel
theorem dX6_dynamic_0 : decode cX6_dynamic 0 = .ok (.aload_n 0, 1) := by decide +kernel
theorem dX6_dynamic_1 : decode cX6_dynamic 1 = .ok (.iconst 0, 1) := by decide +kernel
theorem dX6_dynamic_2 : decode cX6_dynamic 2 = .ok (.putfield 83, 3) := by decide +kernel
theorem dX6_dynamic_5 : decode cX6_dynamic 5 = .ok (.aload_n 0, 1) := by decide +kernel
theorem dX6_dynamic_6 : decode cX6_dynamic 6 = .ok (.iload_n 2, 1) := by decide +kernel
theorem dX6_dynamic_7 : decode cX6_dynamic 7 = .ok (.invokevirtual 99, 3) := by decide +kernel
theorem dX6_dynamic_10 : decode cX6_dynamic 10 = .ok (.istore 4, 2) := by decide +kernel
theorem dX6_dynamic_12 : decode cX6_dynamic 12 = .ok (.iload 4, 2) := by decide +kernel
theorem dX6_dynamic_14 : decode cX6_dynamic 14 = .ok (.ifCond .ge 5, 3) := by decide +kernel
theorem dX6_dynamic_17 : decode cX6_dynamic 17 = .ok (.iconst (-1), 1) := by decide +kernel
theorem dX6_dynamic_18 : decode cX6_dynamic 18 = .ok (.ireturn, 1) := by decide +kernel
theorem dX6_dynamic_19 : decode cX6_dynamic 19 = .ok (.iload_n 1, 1) := by decide +kernel
theorem dX6_dynamic_20 : decode cX6_dynamic 20 = .ok (.i2l, 1) := by decide +kernel
theorem dX6_dynamic_21 : decode cX6_dynamic 21 = .ok (.lconst 0, 1) := by decide +kernel
theorem dX6_dynamic_22 : decode cX6_dynamic 22 = .ok (.ldc2_w 89, 3) := by decide +kernel
theorem dX6_dynamic_25 : decode cX6_dynamic 25 = .ok (.invokestatic 91, 3) := by decide +kernel
theorem dX6_dynamic_28 : decode cX6_dynamic 28 = .ok (.ifCond .eq 20, 3) := by decide +kernel
theorem dX6_dynamic_31 : decode cX6_dynamic 31 = .ok (.iload_n 3, 1) := by decide +kernel
theorem dX6_dynamic_32 : decode cX6_dynamic 32 = .ok (.i2l, 1) := by decide +kernel
theorem dX6_dynamic_33 : decode cX6_dynamic 33 = .ok (.lconst 1, 1) := by decide +kernel
theorem dX6_dynamic_34 : decode cX6_dynamic 34 = .ok (.aload_n 0, 1) := by decide +kernel
theorem dX6_dynamic_35 : decode cX6_dynamic 35 = .ok (.getfield 24, 3) := by decide +kernel
theorem dX6_dynamic_38 : decode cX6_dynamic 38 = .ok (.iload 4, 2) := by decide +kernel
theorem dX6_dynamic_40 : decode cX6_dynamic 40 = .ok (.iaload, 1) := by decide +kernel
theorem dX6_dynamic_41 : decode cX6_dynamic 41 = .ok (.i2l, 1) := by decide +kernel
theorem dX6_dynamic_42 : decode cX6_dynamic 42 = .ok (.invokestatic 91, 3) := by decide +kernel
theorem dX6_dynamic_45 : decode cX6_dynamic 45 = .ok (.ifCond .ne 6, 3) := by decide +kernel
theorem dX6_dynamic_48 : decode cX6_dynamic 48 = .ok (.bipush (-2), 2) := by decide +kernel
theorem dX6_dynamic_50 : decode cX6_dynamic 50 = .ok (.ireturn, 1) := by decide +kernel
theorem dX6_dynamic_51 : decode cX6_dynamic 51 = .ok (.aload_n 0, 1) := by decide +kernel
theorem dX6_dynamic_52 : decode cX6_dynamic 52 = .ok (.iload_n 1, 1) := by decide +kernel
theorem dX6_dynamic_53 : decode cX6_dynamic 53 = .ok (.invokevirtual 99, 3) := by decide +kernel
theorem dX6_dynamic_56 : decode cX6_dynamic 56 = .ok (.istore 5, 2) := by decide +kernel
theorem dX6_dynamic_58 : decode cX6_dynamic 58 = .ok (.iload 5, 2) := by decide +kernel
theorem dX6_dynamic_60 : decode cX6_dynamic 60 = .ok (.ifCond .lt 13, 3) := by decide +kernel
theorem dX6_dynamic_63 : decode cX6_dynamic 63 = .ok (.aload_n 0, 1) := by decide +kernel
theorem dX6_dynamic_64 : decode cX6_dynamic 64 = .ok (.getfield 47, 3) := by decide +kernel
theorem dX6_dynamic_67 : decode cX6_dynamic 67 = .ok (.iload 5, 2) := by decide +kernel
theorem dX6_dynamic_69 : decode cX6_dynamic 69 = .ok (.baload, 1) := by decide +kernel
theorem dX6_dynamic_70 : decode cX6_dynamic 70 = .ok (.ifCond .eq 13, 3) := by decide +kernel
theorem dX6_dynamic_73 : decode cX6_dynamic 73 = .ok (.aload_n 0, 1) := by decide +kernel
theorem dX6_dynamic_74 : decode cX6_dynamic 74 = .ok (.getfield 47, 3) := by decide +kernel
theorem dX6_dynamic_77 : decode cX6_dynamic 77 = .ok (.iload 4, 2) := by decide +kernel
theorem dX6_dynamic_79 : decode cX6_dynamic 79 = .ok (.baload, 1) := by decide +kernel
theorem dX6_dynamic_80 : decode cX6_dynamic 80 = .ok (.ifCond .eq 6, 3) := by decide +kernel
theorem dX6_dynamic_83 : decode cX6_dynamic 83 = .ok (.bipush (-3), 2) := by decide +kernel
theorem dX6_dynamic_85 : decode cX6_dynamic 85 = .ok (.ireturn, 1) := by decide +kernel
theorem dX6_dynamic_86 : decode cX6_dynamic 86 = .ok (.iload 5, 2) := by decide +kernel
theorem dX6_dynamic_88 : decode cX6_dynamic 88 = .ok (.ifCond .ge 7, 3) := by decide +kernel
theorem dX6_dynamic_91 : decode cX6_dynamic 91 = .ok (.iconst 0, 1) := by decide +kernel
theorem dX6_dynamic_92 : decode cX6_dynamic 92 = .ok (.goto 10, 3) := by decide +kernel
theorem dX6_dynamic_95 : decode cX6_dynamic 95 = .ok (.aload_n 0, 1) := by decide +kernel
theorem dX6_dynamic_96 : decode cX6_dynamic 96 = .ok (.getfield 24, 3) := by decide +kernel
theorem dX6_dynamic_99 : decode cX6_dynamic 99 = .ok (.iload 5, 2) := by decide +kernel
theorem dX6_dynamic_101 : decode cX6_dynamic 101 = .ok (.iaload, 1) := by decide +kernel
theorem dX6_dynamic_102 : decode cX6_dynamic 102 = .ok (.istore 6, 2) := by decide +kernel
theorem dX6_dynamic_104 : decode cX6_dynamic 104 = .ok (.iload 6, 2) := by decide +kernel
theorem dX6_dynamic_106 : decode cX6_dynamic 106 = .ok (.iload_n 3, 1) := by decide +kernel
theorem dX6_dynamic_107 : decode cX6_dynamic 107 = .ok (.iadd, 1) := by decide +kernel
theorem dX6_dynamic_108 : decode cX6_dynamic 108 = .ok (.bipush 8, 2) := by decide +kernel
theorem dX6_dynamic_110 : decode cX6_dynamic 110 = .ok (.if_icmp .gt 17, 3) := by decide +kernel
theorem dX6_dynamic_113 : decode cX6_dynamic 113 = .ok (.iload 5, 2) := by decide +kernel
theorem dX6_dynamic_115 : decode cX6_dynamic 115 = .ok (.ifCond .ge 15, 3) := by decide +kernel
theorem dX6_dynamic_118 : decode cX6_dynamic 118 = .ok (.aload_n 0, 1) := by decide +kernel
theorem dX6_dynamic_119 : decode cX6_dynamic 119 = .ok (.getfield 86, 3) := by decide +kernel
theorem dX6_dynamic_122 : decode cX6_dynamic 122 = .ok (.bipush 40, 2) := by decide +kernel
theorem dX6_dynamic_124 : decode cX6_dynamic 124 = .ok (.if_icmp .ne 6, 3) := by decide +kernel
theorem dX6_dynamic_127 : decode cX6_dynamic 127 = .ok (.bipush (-4), 2) := by decide +kernel
theorem dX6_dynamic_129 : decode cX6_dynamic 129 = .ok (.ireturn, 1) := by decide +kernel
theorem dX6_dynamic_130 : decode cX6_dynamic 130 = .ok (.iload 5, 2) := by decide +kernel
theorem dX6_dynamic_132 : decode cX6_dynamic 132 = .ok (.ifCond .ge 27, 3) := by decide +kernel
theorem dX6_dynamic_135 : decode cX6_dynamic 135 = .ok (.aload_n 0, 1) := by decide +kernel
theorem dX6_dynamic_136 : decode cX6_dynamic 136 = .ok (.getfield 86, 3) := by decide +kernel
theorem dX6_dynamic_139 : decode cX6_dynamic 139 = .ok (.istore 5, 2) := by decide +kernel
theorem dX6_dynamic_141 : decode cX6_dynamic 141 = .ok (.aload_n 0, 1) := by decide +kernel
theorem dX6_dynamic_142 : decode cX6_dynamic 142 = .ok (.iload_n 1, 1) := by decide +kernel
theorem dX6_dynamic_143 : decode cX6_dynamic 143 = .ok (.iconst 0, 1) := by decide +kernel
theorem dX6_dynamic_144 : decode cX6_dynamic 144 = .ok (.iconst 1, 1) := by decide +kernel
theorem dX6_dynamic_145 : decode cX6_dynamic 145 = .ok (.iconst 0, 1) := by decide +kernel
theorem dX6_dynamic_146 : decode cX6_dynamic 146 = .ok (.invokevirtual 103, 3) := by decide +kernel
theorem dX6_dynamic_149 : decode cX6_dynamic 149 = .ok (.istore 7, 2) := by decide +kernel
theorem dX6_dynamic_151 : decode cX6_dynamic 151 = .ok (.aload_n 0, 1) := by decide +kernel
theorem dX6_dynamic_152 : decode cX6_dynamic 152 = .ok (.getfield 47, 3) := by decide +kernel
theorem dX6_dynamic_155 : decode cX6_dynamic 155 = .ok (.iload 5, 2) := by decide +kernel
theorem dX6_dynamic_157 : decode cX6_dynamic 157 = .ok (.iconst 1, 1) := by decide +kernel
theorem dX6_dynamic_158 : decode cX6_dynamic 158 = .ok (.bastore, 1) := by decide +kernel
theorem dX6_dynamic_159 : decode cX6_dynamic 159 = .ok (.iconst 0, 1) := by decide +kernel
theorem dX6_dynamic_160 : decode cX6_dynamic 160 = .ok (.istore 7, 2) := by decide +kernel
theorem dX6_dynamic_162 : decode cX6_dynamic 162 = .ok (.iload 7, 2) := by decide +kernel
theorem dX6_dynamic_164 : decode cX6_dynamic 164 = .ok (.iload_n 3, 1) := by decide +kernel
theorem dX6_dynamic_165 : decode cX6_dynamic 165 = .ok (.if_icmp .ge 45, 3) := by decide +kernel
theorem dX6_dynamic_168 : decode cX6_dynamic 168 = .ok (.aload_n 0, 1) := by decide +kernel
theorem dX6_dynamic_169 : decode cX6_dynamic 169 = .ok (.getfield 50, 3) := by decide +kernel
theorem dX6_dynamic_172 : decode cX6_dynamic 172 = .ok (.bipush 8, 2) := by decide +kernel
theorem dX6_dynamic_174 : decode cX6_dynamic 174 = .ok (.iload 5, 2) := by decide +kernel
theorem dX6_dynamic_176 : decode cX6_dynamic 176 = .ok (.imul, 1) := by decide +kernel
theorem dX6_dynamic_177 : decode cX6_dynamic 177 = .ok (.iload 6, 2) := by decide +kernel
theorem dX6_dynamic_179 : decode cX6_dynamic 179 = .ok (.iadd, 1) := by decide +kernel
theorem dX6_dynamic_180 : decode cX6_dynamic 180 = .ok (.iload 7, 2) := by decide +kernel
theorem dX6_dynamic_182 : decode cX6_dynamic 182 = .ok (.iadd, 1) := by decide +kernel
theorem dX6_dynamic_183 : decode cX6_dynamic 183 = .ok (.iload 4, 2) := by decide +kernel
theorem dX6_dynamic_185 : decode cX6_dynamic 185 = .ok (.iastore, 1) := by decide +kernel
theorem dX6_dynamic_186 : decode cX6_dynamic 186 = .ok (.aload_n 0, 1) := by decide +kernel
theorem dX6_dynamic_187 : decode cX6_dynamic 187 = .ok (.getfield 53, 3) := by decide +kernel
theorem dX6_dynamic_190 : decode cX6_dynamic 190 = .ok (.bipush 8, 2) := by decide +kernel
theorem dX6_dynamic_192 : decode cX6_dynamic 192 = .ok (.iload 5, 2) := by decide +kernel
theorem dX6_dynamic_194 : decode cX6_dynamic 194 = .ok (.imul, 1) := by decide +kernel
theorem dX6_dynamic_195 : decode cX6_dynamic 195 = .ok (.iload 6, 2) := by decide +kernel
theorem dX6_dynamic_197 : decode cX6_dynamic 197 = .ok (.iadd, 1) := by decide +kernel
theorem dX6_dynamic_198 : decode cX6_dynamic 198 = .ok (.iload 7, 2) := by decide +kernel
theorem dX6_dynamic_200 : decode cX6_dynamic 200 = .ok (.iadd, 1) := by decide +kernel
theorem dX6_dynamic_201 : decode cX6_dynamic 201 = .ok (.iload 7, 2) := by decide +kernel
theorem dX6_dynamic_203 : decode cX6_dynamic 203 = .ok (.iastore, 1) := by decide +kernel
theorem dX6_dynamic_204 : decode cX6_dynamic 204 = .ok (.iinc 7 1, 3) := by decide +kernel
theorem dX6_dynamic_207 : decode cX6_dynamic 207 = .ok (.goto (-45), 3) := by decide +kernel
theorem dX6_dynamic_210 : decode cX6_dynamic 210 = .ok (.aload_n 0, 1) := by decide +kernel
theorem dX6_dynamic_211 : decode cX6_dynamic 211 = .ok (.getfield 24, 3) := by decide +kernel
theorem dX6_dynamic_214 : decode cX6_dynamic 214 = .ok (.iload 5, 2) := by decide +kernel
theorem dX6_dynamic_216 : decode cX6_dynamic 216 = .ok (.iload 6, 2) := by decide +kernel
theorem dX6_dynamic_218 : decode cX6_dynamic 218 = .ok (.iload_n 3, 1) := by decide +kernel
theorem dX6_dynamic_219 : decode cX6_dynamic 219 = .ok (.iadd, 1) := by decide +kernel
theorem dX6_dynamic_220 : decode cX6_dynamic 220 = .ok (.iastore, 1) := by decide +kernel
theorem dX6_dynamic_221 : decode cX6_dynamic 221 = .ok (.aload_n 0, 1) := by decide +kernel
theorem dX6_dynamic_222 : decode cX6_dynamic 222 = .ok (.getfield 24, 3) := by decide +kernel
theorem dX6_dynamic_225 : decode cX6_dynamic 225 = .ok (.iload 5, 2) := by decide +kernel
theorem dX6_dynamic_227 : decode cX6_dynamic 227 = .ok (.iaload, 1) := by decide +kernel
theorem dX6_dynamic_228 : decode cX6_dynamic 228 = .ok (.ireturn, 1) := by decide +kernel
theorem dX6_routine_0 : decode cX6_routine 0 = .ok (.aload_n 0, 1) := by decide +kernel
theorem dX6_routine_1 : decode cX6_routine 1 = .ok (.iconst 0, 1) := by decide +kernel
theorem dX6_routine_2 : decode cX6_routine 2 = .ok (.putfield 83, 3) := by decide +kernel
theorem dX6_routine_5 : decode cX6_routine 5 = .ok (.iload_n 1, 1) := by decide +kernel
theorem dX6_routine_6 : decode cX6_routine 6 = .ok (.i2l, 1) := by decide +kernel
theorem dX6_routine_7 : decode cX6_routine 7 = .ok (.lconst 0, 1) := by decide +kernel
theorem dX6_routine_8 : decode cX6_routine 8 = .ok (.ldc2_w 89, 3) := by decide +kernel
theorem dX6_routine_11 : decode cX6_routine 11 = .ok (.invokestatic 91, 3) := by decide +kernel
theorem dX6_routine_14 : decode cX6_routine 14 = .ok (.ifCond .eq 15, 3) := by decide +kernel
theorem dX6_routine_17 : decode cX6_routine 17 = .ok (.iload_n 2, 1) := by decide +kernel
theorem dX6_routine_18 : decode cX6_routine 18 = .ok (.i2l, 1) := by decide +kernel
theorem dX6_routine_19 : decode cX6_routine 19 = .ok (.lconst 0, 1) := by decide +kernel
theorem dX6_routine_20 : decode cX6_routine 20 = .ok (.ldc2_w 107, 3) := by decide +kernel
theorem dX6_routine_23 : decode cX6_routine 23 = .ok (.invokestatic 91, 3) := by decide +kernel
theorem dX6_routine_26 : decode cX6_routine 26 = .ok (.ifCond .ne 6, 3) := by decide +kernel
theorem dX6_routine_29 : decode cX6_routine 29 = .ok (.bipush (-2), 2) := by decide +kernel
theorem dX6_routine_31 : decode cX6_routine 31 = .ok (.ireturn, 1) := by decide +kernel
theorem dX6_routine_32 : decode cX6_routine 32 = .ok (.iconst 0, 1) := by decide +kernel
theorem dX6_routine_33 : decode cX6_routine 33 = .ok (.istore_n 3, 1) := by decide +kernel
theorem dX6_routine_34 : decode cX6_routine 34 = .ok (.iload_n 3, 1) := by decide +kernel
theorem dX6_routine_35 : decode cX6_routine 35 = .ok (.aload_n 0, 1) := by decide +kernel
theorem dX6_routine_36 : decode cX6_routine 36 = .ok (.getfield 109, 3) := by decide +kernel
theorem dX6_routine_39 : decode cX6_routine 39 = .ok (.if_icmp .ge 22, 3) := by decide +kernel
theorem dX6_routine_42 : decode cX6_routine 42 = .ok (.aload_n 0, 1) := by decide +kernel
theorem dX6_routine_43 : decode cX6_routine 43 = .ok (.getfield 56, 3) := by decide +kernel
theorem dX6_routine_46 : decode cX6_routine 46 = .ok (.iload_n 3, 1) := by decide +kernel
theorem dX6_routine_47 : decode cX6_routine 47 = .ok (.iaload, 1) := by decide +kernel
theorem dX6_routine_48 : decode cX6_routine 48 = .ok (.iload_n 1, 1) := by decide +kernel
theorem dX6_routine_49 : decode cX6_routine 49 = .ok (.if_icmp .ne 6, 3) := by decide +kernel
theorem dX6_routine_52 : decode cX6_routine 52 = .ok (.bipush (-3), 2) := by decide +kernel
theorem dX6_routine_54 : decode cX6_routine 54 = .ok (.ireturn, 1) := by decide +kernel
theorem dX6_routine_55 : decode cX6_routine 55 = .ok (.iinc 3 1, 3) := by decide +kernel
theorem dX6_routine_58 : decode cX6_routine 58 = .ok (.goto (-24), 3) := by decide +kernel
theorem dX6_routine_61 : decode cX6_routine 61 = .ok (.aload_n 0, 1) := by decide +kernel
theorem dX6_routine_62 : decode cX6_routine 62 = .ok (.getfield 109, 3) := by decide +kernel
theorem dX6_routine_65 : decode cX6_routine 65 = .ok (.bipush 10, 2) := by decide +kernel
theorem dX6_routine_67 : decode cX6_routine 67 = .ok (.if_icmp .ne 6, 3) := by decide +kernel
theorem dX6_routine_70 : decode cX6_routine 70 = .ok (.bipush (-4), 2) := by decide +kernel
theorem dX6_routine_72 : decode cX6_routine 72 = .ok (.ireturn, 1) := by decide +kernel
theorem dX6_routine_73 : decode cX6_routine 73 = .ok (.aload_n 0, 1) := by decide +kernel
theorem dX6_routine_74 : decode cX6_routine 74 = .ok (.getfield 56, 3) := by decide +kernel
theorem dX6_routine_77 : decode cX6_routine 77 = .ok (.aload_n 0, 1) := by decide +kernel
theorem dX6_routine_78 : decode cX6_routine 78 = .ok (.getfield 109, 3) := by decide +kernel
theorem dX6_routine_81 : decode cX6_routine 81 = .ok (.iload_n 1, 1) := by decide +kernel
theorem dX6_routine_82 : decode cX6_routine 82 = .ok (.iastore, 1) := by decide +kernel
theorem dX6_routine_83 : decode cX6_routine 83 = .ok (.aload_n 0, 1) := by decide +kernel
theorem dX6_routine_84 : decode cX6_routine 84 = .ok (.getfield 59, 3) := by decide +kernel
theorem dX6_routine_87 : decode cX6_routine 87 = .ok (.aload_n 0, 1) := by decide +kernel
theorem dX6_routine_88 : decode cX6_routine 88 = .ok (.getfield 109, 3) := by decide +kernel
theorem dX6_routine_91 : decode cX6_routine 91 = .ok (.iload_n 2, 1) := by decide +kernel
theorem dX6_routine_92 : decode cX6_routine 92 = .ok (.iastore, 1) := by decide +kernel
theorem dX6_routine_93 : decode cX6_routine 93 = .ok (.aload_n 0, 1) := by decide +kernel
theorem dX6_routine_94 : decode cX6_routine 94 = .ok (.dup, 1) := by decide +kernel
theorem dX6_routine_95 : decode cX6_routine 95 = .ok (.getfield 109, 3) := by decide +kernel
theorem dX6_routine_98 : decode cX6_routine 98 = .ok (.iconst 1, 1) := by decide +kernel
theorem dX6_routine_99 : decode cX6_routine 99 = .ok (.iadd, 1) := by decide +kernel
theorem dX6_routine_100 : decode cX6_routine 100 = .ok (.putfield 109, 3) := by decide +kernel
theorem dX6_routine_103 : decode cX6_routine 103 = .ok (.aload_n 0, 1) := by decide +kernel
theorem dX6_routine_104 : decode cX6_routine 104 = .ok (.getfield 109, 3) := by decide +kernel
theorem dX6_routine_107 : decode cX6_routine 107 = .ok (.ireturn, 1) := by decide +kernel
theorem dX6_condition_0 : decode cX6_condition 0 = .ok (.aload_n 0, 1) := by decide +kernel
theorem dX6_condition_1 : decode cX6_condition 1 = .ok (.iconst 0, 1) := by decide +kernel
theorem dX6_condition_2 : decode cX6_condition 2 = .ok (.putfield 83, 3) := by decide +kernel
theorem dX6_condition_5 : decode cX6_condition 5 = .ok (.iload_n 1, 1) := by decide +kernel
theorem dX6_condition_6 : decode cX6_condition 6 = .ok (.i2l, 1) := by decide +kernel
theorem dX6_condition_7 : decode cX6_condition 7 = .ok (.lconst 0, 1) := by decide +kernel
theorem dX6_condition_8 : decode cX6_condition 8 = .ok (.lconst 1, 1) := by decide +kernel
theorem dX6_condition_9 : decode cX6_condition 9 = .ok (.invokestatic 91, 3) := by decide +kernel
theorem dX6_condition_12 : decode cX6_condition 12 = .ok (.ifCond .ne 5, 3) := by decide +kernel
theorem dX6_condition_15 : decode cX6_condition 15 = .ok (.iconst (-1), 1) := by decide +kernel
theorem dX6_condition_16 : decode cX6_condition 16 = .ok (.ireturn, 1) := by decide +kernel
theorem dX6_condition_17 : decode cX6_condition 17 = .ok (.iload_n 1, 1) := by decide +kernel
theorem dX6_condition_18 : decode cX6_condition 18 = .ok (.ifCond .ne 11, 3) := by decide +kernel
theorem dX6_condition_21 : decode cX6_condition 21 = .ok (.aload_n 0, 1) := by decide +kernel
theorem dX6_condition_22 : decode cX6_condition 22 = .ok (.iload_n 2, 1) := by decide +kernel
theorem dX6_condition_23 : decode cX6_condition 23 = .ok (.putfield 13, 3) := by decide +kernel
theorem dX6_condition_26 : decode cX6_condition 26 = .ok (.goto 8, 3) := by decide +kernel
theorem dX6_condition_29 : decode cX6_condition 29 = .ok (.aload_n 0, 1) := by decide +kernel
theorem dX6_condition_30 : decode cX6_condition 30 = .ok (.iload_n 2, 1) := by decide +kernel
theorem dX6_condition_31 : decode cX6_condition 31 = .ok (.putfield 17, 3) := by decide +kernel
theorem dX6_condition_34 : decode cX6_condition 34 = .ok (.aload_n 0, 1) := by decide +kernel
theorem dX6_condition_35 : decode cX6_condition 35 = .ok (.getfield 13, 3) := by decide +kernel
theorem dX6_condition_38 : decode cX6_condition 38 = .ok (.ifCond .eq 14, 3) := by decide +kernel
theorem dX6_condition_41 : decode cX6_condition 41 = .ok (.aload_n 0, 1) := by decide +kernel
theorem dX6_condition_42 : decode cX6_condition 42 = .ok (.getfield 17, 3) := by decide +kernel
theorem dX6_condition_45 : decode cX6_condition 45 = .ok (.ifCond .eq 7, 3) := by decide +kernel
theorem dX6_condition_48 : decode cX6_condition 48 = .ok (.iconst 1, 1) := by decide +kernel
theorem dX6_condition_49 : decode cX6_condition 49 = .ok (.goto 4, 3) := by decide +kernel
theorem dX6_condition_52 : decode cX6_condition 52 = .ok (.iconst 0, 1) := by decide +kernel
theorem dX6_condition_53 : decode cX6_condition 53 = .ok (.ireturn, 1) := by decide +kernel
theorem dX6_rights_0 : decode cX6_rights 0 = .ok (.aload_n 0, 1) := by decide +kernel
theorem dX6_rights_1 : decode cX6_rights 1 = .ok (.iconst 0, 1) := by decide +kernel
theorem dX6_rights_2 : decode cX6_rights 2 = .ok (.putfield 83, 3) := by decide +kernel
theorem dX6_rights_5 : decode cX6_rights 5 = .ok (.iload_n 1, 1) := by decide +kernel
theorem dX6_rights_6 : decode cX6_rights 6 = .ok (.i2l, 1) := by decide +kernel
theorem dX6_rights_7 : decode cX6_rights 7 = .ok (.lconst 0, 1) := by decide +kernel
theorem dX6_rights_8 : decode cX6_rights 8 = .ok (.ldc2_w 97, 3) := by decide +kernel
theorem dX6_rights_11 : decode cX6_rights 11 = .ok (.invokestatic 91, 3) := by decide +kernel
theorem dX6_rights_14 : decode cX6_rights 14 = .ok (.ifCond .ne 6, 3) := by decide +kernel
theorem dX6_rights_17 : decode cX6_rights 17 = .ok (.bipush (-2), 2) := by decide +kernel
theorem dX6_rights_19 : decode cX6_rights 19 = .ok (.ireturn, 1) := by decide +kernel
theorem dX6_rights_20 : decode cX6_rights 20 = .ok (.aload_n 0, 1) := by decide +kernel
theorem dX6_rights_21 : decode cX6_rights 21 = .ok (.getfield 112, 3) := by decide +kernel
theorem dX6_rights_24 : decode cX6_rights 24 = .ok (.istore_n 2, 1) := by decide +kernel
theorem dX6_rights_25 : decode cX6_rights 25 = .ok (.aload_n 0, 1) := by decide +kernel
theorem dX6_rights_26 : decode cX6_rights 26 = .ok (.iload_n 1, 1) := by decide +kernel
theorem dX6_rights_27 : decode cX6_rights 27 = .ok (.putfield 112, 3) := by decide +kernel
theorem dX6_rights_30 : decode cX6_rights 30 = .ok (.iload_n 2, 1) := by decide +kernel
theorem dX6_rights_31 : decode cX6_rights 31 = .ok (.ireturn, 1) := by decide +kernel
theorem dX6_control_0 : decode cX6_control 0 = .ok (.aload_n 0, 1) := by decide +kernel
theorem dX6_control_1 : decode cX6_control 1 = .ok (.iconst 0, 1) := by decide +kernel
theorem dX6_control_2 : decode cX6_control 2 = .ok (.putfield 83, 3) := by decide +kernel
theorem dX6_control_5 : decode cX6_control 5 = .ok (.aload_n 0, 1) := by decide +kernel
theorem dX6_control_6 : decode cX6_control 6 = .ok (.iload_n 1, 1) := by decide +kernel
theorem dX6_control_7 : decode cX6_control 7 = .ok (.invokevirtual 99, 3) := by decide +kernel
theorem dX6_control_10 : decode cX6_control 10 = .ok (.istore 5, 2) := by decide +kernel
theorem dX6_control_12 : decode cX6_control 12 = .ok (.iload 5, 2) := by decide +kernel
theorem dX6_control_14 : decode cX6_control 14 = .ok (.ifCond .ge 5, 3) := by decide +kernel
theorem dX6_control_17 : decode cX6_control 17 = .ok (.iconst (-1), 1) := by decide +kernel
theorem dX6_control_18 : decode cX6_control 18 = .ok (.ireturn, 1) := by decide +kernel
theorem dX6_control_19 : decode cX6_control 19 = .ok (.iload_n 2, 1) := by decide +kernel
theorem dX6_control_20 : decode cX6_control 20 = .ok (.i2l, 1) := by decide +kernel
theorem dX6_control_21 : decode cX6_control 21 = .ok (.lconst 0, 1) := by decide +kernel
theorem dX6_control_22 : decode cX6_control 22 = .ok (.lconst 1, 1) := by decide +kernel
theorem dX6_control_23 : decode cX6_control 23 = .ok (.invokestatic 91, 3) := by decide +kernel
theorem dX6_control_26 : decode cX6_control 26 = .ok (.ifCond .ne 6, 3) := by decide +kernel
theorem dX6_control_29 : decode cX6_control 29 = .ok (.bipush (-2), 2) := by decide +kernel
theorem dX6_control_31 : decode cX6_control 31 = .ok (.ireturn, 1) := by decide +kernel
theorem dX6_control_32 : decode cX6_control 32 = .ok (.aload_n 0, 1) := by decide +kernel
theorem dX6_control_33 : decode cX6_control 33 = .ok (.getfield 47, 3) := by decide +kernel
theorem dX6_control_36 : decode cX6_control 36 = .ok (.iload 5, 2) := by decide +kernel
theorem dX6_control_38 : decode cX6_control 38 = .ok (.baload, 1) := by decide +kernel
theorem dX6_control_39 : decode cX6_control 39 = .ok (.ifCond .eq 6, 3) := by decide +kernel
theorem dX6_control_42 : decode cX6_control 42 = .ok (.bipush (-3), 2) := by decide +kernel
theorem dX6_control_44 : decode cX6_control 44 = .ok (.ireturn, 1) := by decide +kernel
theorem dX6_control_45 : decode cX6_control 45 = .ok (.iload_n 2, 1) := by decide +kernel
theorem dX6_control_46 : decode cX6_control 46 = .ok (.ifCond .ne 14, 3) := by decide +kernel
theorem dX6_control_49 : decode cX6_control 49 = .ok (.aload_n 0, 1) := by decide +kernel
theorem dX6_control_50 : decode cX6_control 50 = .ok (.getfield 33, 3) := by decide +kernel
theorem dX6_control_53 : decode cX6_control 53 = .ok (.iload 5, 2) := by decide +kernel
theorem dX6_control_55 : decode cX6_control 55 = .ok (.lload_n 3, 1) := by decide +kernel
theorem dX6_control_56 : decode cX6_control 56 = .ok (.lastore, 1) := by decide +kernel
theorem dX6_control_57 : decode cX6_control 57 = .ok (.goto 21, 3) := by decide +kernel
theorem dX6_control_60 : decode cX6_control 60 = .ok (.aload_n 0, 1) := by decide +kernel
theorem dX6_control_61 : decode cX6_control 61 = .ok (.getfield 44, 3) := by decide +kernel
theorem dX6_control_64 : decode cX6_control 64 = .ok (.iload 5, 2) := by decide +kernel
theorem dX6_control_66 : decode cX6_control 66 = .ok (.lload_n 3, 1) := by decide +kernel
theorem dX6_control_67 : decode cX6_control 67 = .ok (.lconst 0, 1) := by decide +kernel
theorem dX6_control_68 : decode cX6_control 68 = .ok (.lcmp, 1) := by decide +kernel
theorem dX6_control_69 : decode cX6_control 69 = .ok (.ifCond .ne 7, 3) := by decide +kernel
theorem dX6_control_72 : decode cX6_control 72 = .ok (.iconst 1, 1) := by decide +kernel
theorem dX6_control_73 : decode cX6_control 73 = .ok (.goto 4, 3) := by decide +kernel
theorem dX6_control_76 : decode cX6_control 76 = .ok (.iconst 0, 1) := by decide +kernel
theorem dX6_control_77 : decode cX6_control 77 = .ok (.bastore, 1) := by decide +kernel
theorem dX6_control_78 : decode cX6_control 78 = .ok (.iconst 1, 1) := by decide +kernel
theorem dX6_control_79 : decode cX6_control 79 = .ok (.ireturn, 1) := by decide +kernel
theorem dX6_pending_0 : decode cX6_pending 0 = .ok (.aload_n 0, 1) := by decide +kernel
theorem dX6_pending_1 : decode cX6_pending 1 = .ok (.iconst 0, 1) := by decide +kernel
theorem dX6_pending_2 : decode cX6_pending 2 = .ok (.putfield 83, 3) := by decide +kernel
theorem dX6_pending_5 : decode cX6_pending 5 = .ok (.iload_n 1, 1) := by decide +kernel
theorem dX6_pending_6 : decode cX6_pending 6 = .ok (.i2l, 1) := by decide +kernel
theorem dX6_pending_7 : decode cX6_pending 7 = .ok (.lconst 0, 1) := by decide +kernel
theorem dX6_pending_8 : decode cX6_pending 8 = .ok (.ldc2_w 115, 3) := by decide +kernel
theorem dX6_pending_11 : decode cX6_pending 11 = .ok (.invokestatic 91, 3) := by decide +kernel
theorem dX6_pending_14 : decode cX6_pending 14 = .ok (.ifCond .ne 6, 3) := by decide +kernel
theorem dX6_pending_17 : decode cX6_pending 17 = .ok (.bipush (-2), 2) := by decide +kernel
theorem dX6_pending_19 : decode cX6_pending 19 = .ok (.ireturn, 1) := by decide +kernel
theorem dX6_pending_20 : decode cX6_pending 20 = .ok (.aload_n 0, 1) := by decide +kernel
theorem dX6_pending_21 : decode cX6_pending 21 = .ok (.getfield 117, 3) := by decide +kernel
theorem dX6_pending_24 : decode cX6_pending 24 = .ok (.istore_n 2, 1) := by decide +kernel
theorem dX6_pending_25 : decode cX6_pending 25 = .ok (.aload_n 0, 1) := by decide +kernel
theorem dX6_pending_26 : decode cX6_pending 26 = .ok (.iload_n 1, 1) := by decide +kernel
theorem dX6_pending_27 : decode cX6_pending 27 = .ok (.putfield 117, 3) := by decide +kernel
theorem dX6_pending_30 : decode cX6_pending 30 = .ok (.iload_n 2, 1) := by decide +kernel
theorem dX6_pending_31 : decode cX6_pending 31 = .ok (.ireturn, 1) := by decide +kernel
theorem dX6_octet_0 : decode cX6_octet 0 = .ok (.aload_n 0, 1) := by decide +kernel
theorem dX6_octet_1 : decode cX6_octet 1 = .ok (.getfield 47, 3) := by decide +kernel
theorem dX6_octet_4 : decode cX6_octet 4 = .ok (.iload_n 1, 1) := by decide +kernel
theorem dX6_octet_5 : decode cX6_octet 5 = .ok (.baload, 1) := by decide +kernel
theorem dX6_octet_6 : decode cX6_octet 6 = .ok (.ifCond .eq 17, 3) := by decide +kernel
theorem dX6_octet_9 : decode cX6_octet 9 = .ok (.aload_n 0, 1) := by decide +kernel
theorem dX6_octet_10 : decode cX6_octet 10 = .ok (.getfield 50, 3) := by decide +kernel
theorem dX6_octet_13 : decode cX6_octet 13 = .ok (.bipush 8, 2) := by decide +kernel
theorem dX6_octet_15 : decode cX6_octet 15 = .ok (.iload_n 1, 1) := by decide +kernel
theorem dX6_octet_16 : decode cX6_octet 16 = .ok (.imul, 1) := by decide +kernel
theorem dX6_octet_17 : decode cX6_octet 17 = .ok (.iload_n 2, 1) := by decide +kernel
theorem dX6_octet_18 : decode cX6_octet 18 = .ok (.iadd, 1) := by decide +kernel
theorem dX6_octet_19 : decode cX6_octet 19 = .ok (.iaload, 1) := by decide +kernel
theorem dX6_octet_20 : decode cX6_octet 20 = .ok (.goto 4, 3) := by decide +kernel
theorem dX6_octet_23 : decode cX6_octet 23 = .ok (.iload_n 1, 1) := by decide +kernel
theorem dX6_octet_24 : decode cX6_octet 24 = .ok (.istore_n 3, 1) := by decide +kernel
theorem dX6_octet_25 : decode cX6_octet 25 = .ok (.aload_n 0, 1) := by decide +kernel
theorem dX6_octet_26 : decode cX6_octet 26 = .ok (.getfield 47, 3) := by decide +kernel
theorem dX6_octet_29 : decode cX6_octet 29 = .ok (.iload_n 1, 1) := by decide +kernel
theorem dX6_octet_30 : decode cX6_octet 30 = .ok (.baload, 1) := by decide +kernel
theorem dX6_octet_31 : decode cX6_octet 31 = .ok (.ifCond .eq 17, 3) := by decide +kernel
theorem dX6_octet_34 : decode cX6_octet 34 = .ok (.aload_n 0, 1) := by decide +kernel
theorem dX6_octet_35 : decode cX6_octet 35 = .ok (.getfield 53, 3) := by decide +kernel
theorem dX6_octet_38 : decode cX6_octet 38 = .ok (.bipush 8, 2) := by decide +kernel
theorem dX6_octet_40 : decode cX6_octet 40 = .ok (.iload_n 1, 1) := by decide +kernel
theorem dX6_octet_41 : decode cX6_octet 41 = .ok (.imul, 1) := by decide +kernel
theorem dX6_octet_42 : decode cX6_octet 42 = .ok (.iload_n 2, 1) := by decide +kernel
theorem dX6_octet_43 : decode cX6_octet 43 = .ok (.iadd, 1) := by decide +kernel
theorem dX6_octet_44 : decode cX6_octet 44 = .ok (.iaload, 1) := by decide +kernel
theorem dX6_octet_45 : decode cX6_octet 45 = .ok (.goto 4, 3) := by decide +kernel
theorem dX6_octet_48 : decode cX6_octet 48 = .ok (.iload_n 2, 1) := by decide +kernel
theorem dX6_octet_49 : decode cX6_octet 49 = .ok (.istore 4, 2) := by decide +kernel
theorem dX6_octet_51 : decode cX6_octet 51 = .ok (.aload_n 0, 1) := by decide +kernel
theorem dX6_octet_52 : decode cX6_octet 52 = .ok (.getfield 37, 3) := by decide +kernel
theorem dX6_octet_55 : decode cX6_octet 55 = .ok (.iload_n 3, 1) := by decide +kernel
theorem dX6_octet_56 : decode cX6_octet 56 = .ok (.baload, 1) := by decide +kernel
theorem dX6_octet_57 : decode cX6_octet 57 = .ok (.ifCond .eq 12, 3) := by decide +kernel
theorem dX6_octet_60 : decode cX6_octet 60 = .ok (.aload_n 0, 1) := by decide +kernel
theorem dX6_octet_61 : decode cX6_octet 61 = .ok (.getfield 41, 3) := by decide +kernel
theorem dX6_octet_64 : decode cX6_octet 64 = .ok (.iload_n 3, 1) := by decide +kernel
theorem dX6_octet_65 : decode cX6_octet 65 = .ok (.laload, 1) := by decide +kernel
theorem dX6_octet_66 : decode cX6_octet 66 = .ok (.goto 9, 3) := by decide +kernel
theorem dX6_octet_69 : decode cX6_octet 69 = .ok (.aload_n 0, 1) := by decide +kernel
theorem dX6_octet_70 : decode cX6_octet 70 = .ok (.getfield 33, 3) := by decide +kernel
theorem dX6_octet_73 : decode cX6_octet 73 = .ok (.iload_n 3, 1) := by decide +kernel
theorem dX6_octet_74 : decode cX6_octet 74 = .ok (.laload, 1) := by decide +kernel
theorem dX6_octet_75 : decode cX6_octet 75 = .ok (.lstore 5, 2) := by decide +kernel
theorem dX6_octet_77 : decode cX6_octet 77 = .ok (.lload 5, 2) := by decide +kernel
theorem dX6_octet_79 : decode cX6_octet 79 = .ok (.bipush 8, 2) := by decide +kernel
theorem dX6_octet_81 : decode cX6_octet 81 = .ok (.aload_n 0, 1) := by decide +kernel
theorem dX6_octet_82 : decode cX6_octet 82 = .ok (.getfield 24, 3) := by decide +kernel
theorem dX6_octet_85 : decode cX6_octet 85 = .ok (.iload_n 3, 1) := by decide +kernel
theorem dX6_octet_86 : decode cX6_octet 86 = .ok (.iaload, 1) := by decide +kernel
theorem dX6_octet_87 : decode cX6_octet 87 = .ok (.iconst 1, 1) := by decide +kernel
theorem dX6_octet_88 : decode cX6_octet 88 = .ok (.isub, 1) := by decide +kernel
theorem dX6_octet_89 : decode cX6_octet 89 = .ok (.iload 4, 2) := by decide +kernel
theorem dX6_octet_91 : decode cX6_octet 91 = .ok (.isub, 1) := by decide +kernel
theorem dX6_octet_92 : decode cX6_octet 92 = .ok (.imul, 1) := by decide +kernel
theorem dX6_octet_93 : decode cX6_octet 93 = .ok (.lshr, 1) := by decide +kernel
theorem dX6_octet_94 : decode cX6_octet 94 = .ok (.l2i, 1) := by decide +kernel
theorem dX6_octet_95 : decode cX6_octet 95 = .ok (.sipush 255, 3) := by decide +kernel
theorem dX6_octet_98 : decode cX6_octet 98 = .ok (.iand, 1) := by decide +kernel
theorem dX6_octet_99 : decode cX6_octet 99 = .ok (.ireturn, 1) := by decide +kernel
theorem dX6_valueOf_0 : decode cX6_valueOf 0 = .ok (.lconst 0, 1) := by decide +kernel
theorem dX6_valueOf_1 : decode cX6_valueOf 1 = .ok (.lstore_n 2, 1) := by decide +kernel
theorem dX6_valueOf_2 : decode cX6_valueOf 2 = .ok (.iconst 0, 1) := by decide +kernel
theorem dX6_valueOf_3 : decode cX6_valueOf 3 = .ok (.istore 4, 2) := by decide +kernel
theorem dX6_valueOf_5 : decode cX6_valueOf 5 = .ok (.iload 4, 2) := by decide +kernel
theorem dX6_valueOf_7 : decode cX6_valueOf 7 = .ok (.aload_n 0, 1) := by decide +kernel
theorem dX6_valueOf_8 : decode cX6_valueOf 8 = .ok (.getfield 24, 3) := by decide +kernel
theorem dX6_valueOf_11 : decode cX6_valueOf 11 = .ok (.iload_n 1, 1) := by decide +kernel
theorem dX6_valueOf_12 : decode cX6_valueOf 12 = .ok (.iaload, 1) := by decide +kernel
theorem dX6_valueOf_13 : decode cX6_valueOf 13 = .ok (.if_icmp .ge 23, 3) := by decide +kernel
theorem dX6_valueOf_16 : decode cX6_valueOf 16 = .ok (.lload_n 2, 1) := by decide +kernel
theorem dX6_valueOf_17 : decode cX6_valueOf 17 = .ok (.bipush 8, 2) := by decide +kernel
theorem dX6_valueOf_19 : decode cX6_valueOf 19 = .ok (.lshl, 1) := by decide +kernel
theorem dX6_valueOf_20 : decode cX6_valueOf 20 = .ok (.aload_n 0, 1) := by decide +kernel
theorem dX6_valueOf_21 : decode cX6_valueOf 21 = .ok (.iload_n 1, 1) := by decide +kernel
theorem dX6_valueOf_22 : decode cX6_valueOf 22 = .ok (.iload 4, 2) := by decide +kernel
theorem dX6_valueOf_24 : decode cX6_valueOf 24 = .ok (.invokevirtual 120, 3) := by decide +kernel
theorem dX6_valueOf_27 : decode cX6_valueOf 27 = .ok (.i2l, 1) := by decide +kernel
theorem dX6_valueOf_28 : decode cX6_valueOf 28 = .ok (.lor, 1) := by decide +kernel
theorem dX6_valueOf_29 : decode cX6_valueOf 29 = .ok (.lstore_n 2, 1) := by decide +kernel
theorem dX6_valueOf_30 : decode cX6_valueOf 30 = .ok (.iinc 4 1, 3) := by decide +kernel
theorem dX6_valueOf_33 : decode cX6_valueOf 33 = .ok (.goto (-28), 3) := by decide +kernel
theorem dX6_valueOf_36 : decode cX6_valueOf 36 = .ok (.lload_n 2, 1) := by decide +kernel
theorem dX6_valueOf_37 : decode cX6_valueOf 37 = .ok (.lreturn, 1) := by decide +kernel
theorem dX6_value_0 : decode cX6_value 0 = .ok (.aload_n 0, 1) := by decide +kernel
theorem dX6_value_1 : decode cX6_value 1 = .ok (.iconst 0, 1) := by decide +kernel
theorem dX6_value_2 : decode cX6_value 2 = .ok (.putfield 83, 3) := by decide +kernel
theorem dX6_value_5 : decode cX6_value 5 = .ok (.aload_n 0, 1) := by decide +kernel
theorem dX6_value_6 : decode cX6_value 6 = .ok (.iload_n 1, 1) := by decide +kernel
theorem dX6_value_7 : decode cX6_value 7 = .ok (.invokevirtual 99, 3) := by decide +kernel
theorem dX6_value_10 : decode cX6_value 10 = .ok (.istore_n 2, 1) := by decide +kernel
theorem dX6_value_11 : decode cX6_value 11 = .ok (.iload_n 2, 1) := by decide +kernel
theorem dX6_value_12 : decode cX6_value 12 = .ok (.ifCond .ge 7, 3) := by decide +kernel
theorem dX6_value_15 : decode cX6_value 15 = .ok (.lconst 0, 1) := by decide +kernel
theorem dX6_value_16 : decode cX6_value 16 = .ok (.goto 8, 3) := by decide +kernel
theorem dX6_value_19 : decode cX6_value 19 = .ok (.aload_n 0, 1) := by decide +kernel
theorem dX6_value_20 : decode cX6_value 20 = .ok (.iload_n 2, 1) := by decide +kernel
theorem dX6_value_21 : decode cX6_value 21 = .ok (.invokevirtual 124, 3) := by decide +kernel
theorem dX6_value_24 : decode cX6_value 24 = .ok (.lreturn, 1) := by decide +kernel
theorem dX6_told_0 : decode cX6_told 0 = .ok (.aload_n 0, 1) := by decide +kernel
theorem dX6_told_1 : decode cX6_told 1 = .ok (.getfield 74, 3) := by decide +kernel
theorem dX6_told_4 : decode cX6_told 4 = .ok (.iload_n 1, 1) := by decide +kernel
theorem dX6_told_5 : decode cX6_told 5 = .ok (.iaload, 1) := by decide +kernel
theorem dX6_told_6 : decode cX6_told 6 = .ok (.bipush 8, 2) := by decide +kernel
theorem dX6_told_8 : decode cX6_told 8 = .ok (.ishl, 1) := by decide +kernel
theorem dX6_told_9 : decode cX6_told 9 = .ok (.aload_n 0, 1) := by decide +kernel
theorem dX6_told_10 : decode cX6_told 10 = .ok (.getfield 74, 3) := by decide +kernel
theorem dX6_told_13 : decode cX6_told 13 = .ok (.iload_n 1, 1) := by decide +kernel
theorem dX6_told_14 : decode cX6_told 14 = .ok (.iconst 1, 1) := by decide +kernel
theorem dX6_told_15 : decode cX6_told 15 = .ok (.iadd, 1) := by decide +kernel
theorem dX6_told_16 : decode cX6_told 16 = .ok (.iaload, 1) := by decide +kernel
theorem dX6_told_17 : decode cX6_told 17 = .ok (.ior, 1) := by decide +kernel
theorem dX6_told_18 : decode cX6_told 18 = .ok (.ireturn, 1) := by decide +kernel
theorem dX6_number_0 : decode cX6_number 0 = .ok (.lconst 0, 1) := by decide +kernel
theorem dX6_number_1 : decode cX6_number 1 = .ok (.lstore_n 3, 1) := by decide +kernel
theorem dX6_number_2 : decode cX6_number 2 = .ok (.iconst 0, 1) := by decide +kernel
theorem dX6_number_3 : decode cX6_number 3 = .ok (.istore 5, 2) := by decide +kernel
theorem dX6_number_5 : decode cX6_number 5 = .ok (.iload 5, 2) := by decide +kernel
theorem dX6_number_7 : decode cX6_number 7 = .ok (.iload_n 2, 1) := by decide +kernel
theorem dX6_number_8 : decode cX6_number 8 = .ok (.if_icmp .ge 25, 3) := by decide +kernel
theorem dX6_number_11 : decode cX6_number 11 = .ok (.lload_n 3, 1) := by decide +kernel
theorem dX6_number_12 : decode cX6_number 12 = .ok (.bipush 8, 2) := by decide +kernel
theorem dX6_number_14 : decode cX6_number 14 = .ok (.lshl, 1) := by decide +kernel
theorem dX6_number_15 : decode cX6_number 15 = .ok (.aload_n 0, 1) := by decide +kernel
theorem dX6_number_16 : decode cX6_number 16 = .ok (.getfield 74, 3) := by decide +kernel
theorem dX6_number_19 : decode cX6_number 19 = .ok (.iload_n 1, 1) := by decide +kernel
theorem dX6_number_20 : decode cX6_number 20 = .ok (.iload 5, 2) := by decide +kernel
theorem dX6_number_22 : decode cX6_number 22 = .ok (.iadd, 1) := by decide +kernel
theorem dX6_number_23 : decode cX6_number 23 = .ok (.iaload, 1) := by decide +kernel
theorem dX6_number_24 : decode cX6_number 24 = .ok (.i2l, 1) := by decide +kernel
theorem dX6_number_25 : decode cX6_number 25 = .ok (.lor, 1) := by decide +kernel
theorem dX6_number_26 : decode cX6_number 26 = .ok (.lstore_n 3, 1) := by decide +kernel
theorem dX6_number_27 : decode cX6_number 27 = .ok (.iinc 5 1, 3) := by decide +kernel
theorem dX6_number_30 : decode cX6_number 30 = .ok (.goto (-25), 3) := by decide +kernel
theorem dX6_number_33 : decode cX6_number 33 = .ok (.lload_n 3, 1) := by decide +kernel
theorem dX6_number_34 : decode cX6_number 34 = .ok (.lreturn, 1) := by decide +kernel
theorem dX6_say_0 : decode cX6_say 0 = .ok (.aload_n 0, 1) := by decide +kernel
theorem dX6_say_1 : decode cX6_say 1 = .ok (.getfield 77, 3) := by decide +kernel
theorem dX6_say_4 : decode cX6_say 4 = .ok (.aload_n 0, 1) := by decide +kernel
theorem dX6_say_5 : decode cX6_say 5 = .ok (.getfield 128, 3) := by decide +kernel
theorem dX6_say_8 : decode cX6_say 8 = .ok (.iload_n 1, 1) := by decide +kernel
theorem dX6_say_9 : decode cX6_say 9 = .ok (.sipush 255, 3) := by decide +kernel
theorem dX6_say_12 : decode cX6_say 12 = .ok (.iand, 1) := by decide +kernel
theorem dX6_say_13 : decode cX6_say 13 = .ok (.iastore, 1) := by decide +kernel
theorem dX6_say_14 : decode cX6_say 14 = .ok (.aload_n 0, 1) := by decide +kernel
theorem dX6_say_15 : decode cX6_say 15 = .ok (.dup, 1) := by decide +kernel
theorem dX6_say_16 : decode cX6_say 16 = .ok (.getfield 128, 3) := by decide +kernel
theorem dX6_say_19 : decode cX6_say 19 = .ok (.iconst 1, 1) := by decide +kernel
theorem dX6_say_20 : decode cX6_say 20 = .ok (.iadd, 1) := by decide +kernel
theorem dX6_say_21 : decode cX6_say 21 = .ok (.putfield 128, 3) := by decide +kernel
theorem dX6_say_24 : decode cX6_say 24 = .ok (.return_, 1) := by decide +kernel
theorem dX6_threeSaid_0 : decode cX6_threeSaid 0 = .ok (.aload_n 0, 1) := by decide +kernel
theorem dX6_threeSaid_1 : decode cX6_threeSaid 1 = .ok (.iload_n 1, 1) := by decide +kernel
theorem dX6_threeSaid_2 : decode cX6_threeSaid 2 = .ok (.invokevirtual 131, 3) := by decide +kernel
theorem dX6_threeSaid_5 : decode cX6_threeSaid 5 = .ok (.aload_n 0, 1) := by decide +kernel
theorem dX6_threeSaid_6 : decode cX6_threeSaid 6 = .ok (.iload_n 2, 1) := by decide +kernel
theorem dX6_threeSaid_7 : decode cX6_threeSaid 7 = .ok (.invokevirtual 131, 3) := by decide +kernel
theorem dX6_threeSaid_10 : decode cX6_threeSaid 10 = .ok (.aload_n 0, 1) := by decide +kernel
theorem dX6_threeSaid_11 : decode cX6_threeSaid 11 = .ok (.iload_n 3, 1) := by decide +kernel
theorem dX6_threeSaid_12 : decode cX6_threeSaid 12 = .ok (.invokevirtual 131, 3) := by decide +kernel
theorem dX6_threeSaid_15 : decode cX6_threeSaid 15 = .ok (.return_, 1) := by decide +kernel
theorem dX6_ends_0 : decode cX6_ends 0 = .ok (.iconst 0, 1) := by decide +kernel
theorem dX6_ends_1 : decode cX6_ends 1 = .ok (.istore_n 2, 1) := by decide +kernel
theorem dX6_ends_2 : decode cX6_ends 2 = .ok (.iload_n 2, 1) := by decide +kernel
theorem dX6_ends_3 : decode cX6_ends 3 = .ok (.aload_n 0, 1) := by decide +kernel
theorem dX6_ends_4 : decode cX6_ends 4 = .ok (.getfield 86, 3) := by decide +kernel
theorem dX6_ends_7 : decode cX6_ends 7 = .ok (.if_icmp .ge 16, 3) := by decide +kernel
theorem dX6_ends_10 : decode cX6_ends 10 = .ok (.aload_n 0, 1) := by decide +kernel
theorem dX6_ends_11 : decode cX6_ends 11 = .ok (.getfield 37, 3) := by decide +kernel
theorem dX6_ends_14 : decode cX6_ends 14 = .ok (.iload_n 2, 1) := by decide +kernel
theorem dX6_ends_15 : decode cX6_ends 15 = .ok (.iconst 0, 1) := by decide +kernel
theorem dX6_ends_16 : decode cX6_ends 16 = .ok (.bastore, 1) := by decide +kernel
theorem dX6_ends_17 : decode cX6_ends 17 = .ok (.iinc 2 1, 3) := by decide +kernel
theorem dX6_ends_20 : decode cX6_ends 20 = .ok (.goto (-18), 3) := by decide +kernel
theorem dX6_ends_23 : decode cX6_ends 23 = .ok (.aload_n 0, 1) := by decide +kernel
theorem dX6_ends_24 : decode cX6_ends 24 = .ok (.iconst 0, 1) := by decide +kernel
theorem dX6_ends_25 : decode cX6_ends 25 = .ok (.putfield 135, 3) := by decide +kernel
theorem dX6_ends_28 : decode cX6_ends 28 = .ok (.aload_n 0, 1) := by decide +kernel
theorem dX6_ends_29 : decode cX6_ends 29 = .ok (.iconst 0, 1) := by decide +kernel
theorem dX6_ends_30 : decode cX6_ends 30 = .ok (.putfield 112, 3) := by decide +kernel
theorem dX6_ends_33 : decode cX6_ends 33 = .ok (.aload_n 0, 1) := by decide +kernel
theorem dX6_ends_34 : decode cX6_ends 34 = .ok (.iload_n 1, 1) := by decide +kernel
theorem dX6_ends_35 : decode cX6_ends 35 = .ok (.putfield 7, 3) := by decide +kernel
theorem dX6_ends_38 : decode cX6_ends 38 = .ok (.return_, 1) := by decide +kernel
theorem dX6_isHere_0 : decode cX6_isHere 0 = .ok (.iload_n 1, 1) := by decide +kernel
theorem dX6_isHere_1 : decode cX6_isHere 1 = .ok (.ifCond .lt 20, 3) := by decide +kernel
theorem dX6_isHere_4 : decode cX6_isHere 4 = .ok (.aload_n 0, 1) := by decide +kernel
theorem dX6_isHere_5 : decode cX6_isHere 5 = .ok (.getfield 27, 3) := by decide +kernel
theorem dX6_isHere_8 : decode cX6_isHere 8 = .ok (.iload_n 1, 1) := by decide +kernel
theorem dX6_isHere_9 : decode cX6_isHere 9 = .ok (.iaload, 1) := by decide +kernel
theorem dX6_isHere_10 : decode cX6_isHere 10 = .ok (.aload_n 0, 1) := by decide +kernel
theorem dX6_isHere_11 : decode cX6_isHere 11 = .ok (.getfield 7, 3) := by decide +kernel
theorem dX6_isHere_14 : decode cX6_isHere 14 = .ok (.if_icmp .gt 7, 3) := by decide +kernel
theorem dX6_isHere_17 : decode cX6_isHere 17 = .ok (.iconst 1, 1) := by decide +kernel
theorem dX6_isHere_18 : decode cX6_isHere 18 = .ok (.goto 4, 3) := by decide +kernel
theorem dX6_isHere_21 : decode cX6_isHere 21 = .ok (.iconst 0, 1) := by decide +kernel
theorem dX6_isHere_22 : decode cX6_isHere 22 = .ok (.ireturn, 1) := by decide +kernel
theorem dX6_served_0 : decode cX6_served 0 = .ok (.aload_n 0, 1) := by decide +kernel
theorem dX6_served_1 : decode cX6_served 1 = .ok (.getfield 138, 3) := by decide +kernel
theorem dX6_served_4 : decode cX6_served 4 = .ok (.iconst 1, 1) := by decide +kernel
theorem dX6_served_5 : decode cX6_served 5 = .ok (.isub, 1) := by decide +kernel
theorem dX6_served_6 : decode cX6_served 6 = .ok (.istore_n 1, 1) := by decide +kernel
theorem dX6_served_7 : decode cX6_served 7 = .ok (.iload_n 1, 1) := by decide +kernel
theorem dX6_served_8 : decode cX6_served 8 = .ok (.ifCond .le 15, 3) := by decide +kernel
theorem dX6_served_11 : decode cX6_served 11 = .ok (.aload_n 0, 1) := by decide +kernel
theorem dX6_served_12 : decode cX6_served 12 = .ok (.getfield 74, 3) := by decide +kernel
theorem dX6_served_15 : decode cX6_served 15 = .ok (.iconst 1, 1) := by decide +kernel
theorem dX6_served_16 : decode cX6_served 16 = .ok (.iaload, 1) := by decide +kernel
theorem dX6_served_17 : decode cX6_served 17 = .ok (.bipush 127, 2) := by decide +kernel
theorem dX6_served_19 : decode cX6_served 19 = .ok (.iand, 1) := by decide +kernel
theorem dX6_served_20 : decode cX6_served 20 = .ok (.goto 4, 3) := by decide +kernel
theorem dX6_served_23 : decode cX6_served 23 = .ok (.iconst (-1), 1) := by decide +kernel
theorem dX6_served_24 : decode cX6_served 24 = .ok (.istore_n 2, 1) := by decide +kernel
theorem dX6_served_25 : decode cX6_served 25 = .ok (.aload_n 0, 1) := by decide +kernel
theorem dX6_served_26 : decode cX6_served 26 = .ok (.getfield 74, 3) := by decide +kernel
theorem dX6_served_29 : decode cX6_served 29 = .ok (.iconst 0, 1) := by decide +kernel
theorem dX6_served_30 : decode cX6_served 30 = .ok (.iaload, 1) := by decide +kernel
theorem dX6_served_31 : decode cX6_served 31 = .ok (.lookupswitch 463 #[(16, 89), (17, 173), (34, 278), (46, 284), (47, 290), (49, 296), (52, 303), (54, 394), (55, 400), (62, 145)], 89) := by decide +kernel
theorem dX6_served_120 : decode cX6_served 120 = .ok (.iload_n 1, 1) := by decide +kernel
theorem dX6_served_121 : decode cX6_served 121 = .ok (.iconst 1, 1) := by decide +kernel
theorem dX6_served_122 : decode cX6_served 122 = .ok (.if_icmp .eq 6, 3) := by decide +kernel
theorem dX6_served_125 : decode cX6_served 125 = .ok (.bipush 19, 2) := by decide +kernel
theorem dX6_served_127 : decode cX6_served 127 = .ok (.ireturn, 1) := by decide +kernel
theorem dX6_served_128 : decode cX6_served 128 = .ok (.iload_n 2, 1) := by decide +kernel
theorem dX6_served_129 : decode cX6_served 129 = .ok (.i2l, 1) := by decide +kernel
theorem dX6_served_130 : decode cX6_served 130 = .ok (.lconst 1, 1) := by decide +kernel
theorem dX6_served_131 : decode cX6_served 131 = .ok (.ldc2_w 97, 3) := by decide +kernel
theorem dX6_served_134 : decode cX6_served 134 = .ok (.invokestatic 91, 3) := by decide +kernel
theorem dX6_served_137 : decode cX6_served 137 = .ok (.ifCond .ne 6, 3) := by decide +kernel
theorem dX6_served_140 : decode cX6_served 140 = .ok (.bipush 18, 2) := by decide +kernel
theorem dX6_served_142 : decode cX6_served 142 = .ok (.ireturn, 1) := by decide +kernel
theorem dX6_served_143 : decode cX6_served 143 = .ok (.iload_n 2, 1) := by decide +kernel
theorem dX6_served_144 : decode cX6_served 144 = .ok (.iconst 3, 1) := by decide +kernel
theorem dX6_served_145 : decode cX6_served 145 = .ok (.if_icmp .ne 13, 3) := by decide +kernel
theorem dX6_served_148 : decode cX6_served 148 = .ok (.aload_n 0, 1) := by decide +kernel
theorem dX6_served_149 : decode cX6_served 149 = .ok (.getfield 13, 3) := by decide +kernel
theorem dX6_served_152 : decode cX6_served 152 = .ok (.ifCond .ne 6, 3) := by decide +kernel
theorem dX6_served_155 : decode cX6_served 155 = .ok (.bipush 34, 2) := by decide +kernel
theorem dX6_served_157 : decode cX6_served 157 = .ok (.ireturn, 1) := by decide +kernel
theorem dX6_served_158 : decode cX6_served 158 = .ok (.aload_n 0, 1) := by decide +kernel
theorem dX6_served_159 : decode cX6_served 159 = .ok (.iload_n 2, 1) := by decide +kernel
theorem dX6_served_160 : decode cX6_served 160 = .ok (.invokevirtual 141, 3) := by decide +kernel
theorem dX6_served_163 : decode cX6_served 163 = .ok (.aload_n 0, 1) := by decide +kernel
theorem dX6_served_164 : decode cX6_served 164 = .ok (.bipush 80, 2) := by decide +kernel
theorem dX6_served_166 : decode cX6_served 166 = .ok (.invokevirtual 131, 3) := by decide +kernel
theorem dX6_served_169 : decode cX6_served 169 = .ok (.aload_n 0, 1) := by decide +kernel
theorem dX6_served_170 : decode cX6_served 170 = .ok (.iload_n 2, 1) := by decide +kernel
theorem dX6_served_171 : decode cX6_served 171 = .ok (.invokevirtual 131, 3) := by decide +kernel
theorem dX6_served_174 : decode cX6_served 174 = .ok (.iconst 0, 1) := by decide +kernel
theorem dX6_served_175 : decode cX6_served 175 = .ok (.ireturn, 1) := by decide +kernel
theorem dX6_served_176 : decode cX6_served 176 = .ok (.iload_n 1, 1) := by decide +kernel
theorem dX6_served_177 : decode cX6_served 177 = .ok (.iconst 1, 1) := by decide +kernel
theorem dX6_served_178 : decode cX6_served 178 = .ok (.if_icmp .eq 6, 3) := by decide +kernel
theorem dX6_served_181 : decode cX6_served 181 = .ok (.bipush 19, 2) := by decide +kernel
theorem dX6_served_183 : decode cX6_served 183 = .ok (.ireturn, 1) := by decide +kernel
theorem dX6_served_184 : decode cX6_served 184 = .ok (.iload_n 2, 1) := by decide +kernel
theorem dX6_served_185 : decode cX6_served 185 = .ok (.ifCond .eq 6, 3) := by decide +kernel
theorem dX6_served_188 : decode cX6_served 188 = .ok (.bipush 18, 2) := by decide +kernel
theorem dX6_served_190 : decode cX6_served 190 = .ok (.ireturn, 1) := by decide +kernel
theorem dX6_served_191 : decode cX6_served 191 = .ok (.aload_n 0, 1) := by decide +kernel
theorem dX6_served_192 : decode cX6_served 192 = .ok (.bipush 126, 2) := by decide +kernel
theorem dX6_served_194 : decode cX6_served 194 = .ok (.invokevirtual 131, 3) := by decide +kernel
theorem dX6_served_197 : decode cX6_served 197 = .ok (.aload_n 0, 1) := by decide +kernel
theorem dX6_served_198 : decode cX6_served 198 = .ok (.iconst 0, 1) := by decide +kernel
theorem dX6_served_199 : decode cX6_served 199 = .ok (.invokevirtual 131, 3) := by decide +kernel
theorem dX6_served_202 : decode cX6_served 202 = .ok (.iconst 0, 1) := by decide +kernel
theorem dX6_served_203 : decode cX6_served 203 = .ok (.ireturn, 1) := by decide +kernel
theorem dX6_served_204 : decode cX6_served 204 = .ok (.iload_n 1, 1) := by decide +kernel
theorem dX6_served_205 : decode cX6_served 205 = .ok (.iconst 1, 1) := by decide +kernel
theorem dX6_served_206 : decode cX6_served 206 = .ok (.if_icmp .eq 6, 3) := by decide +kernel
theorem dX6_served_209 : decode cX6_served 209 = .ok (.bipush 19, 2) := by decide +kernel
theorem dX6_served_211 : decode cX6_served 211 = .ok (.ireturn, 1) := by decide +kernel
theorem dX6_served_212 : decode cX6_served 212 = .ok (.iload_n 2, 1) := by decide +kernel
theorem dX6_served_213 : decode cX6_served 213 = .ok (.iconst 1, 1) := by decide +kernel
theorem dX6_served_214 : decode cX6_served 214 = .ok (.if_icmp .eq 11, 3) := by decide +kernel
theorem dX6_served_217 : decode cX6_served 217 = .ok (.iload_n 2, 1) := by decide +kernel
theorem dX6_served_218 : decode cX6_served 218 = .ok (.iconst 3, 1) := by decide +kernel
theorem dX6_served_219 : decode cX6_served 219 = .ok (.if_icmp .eq 6, 3) := by decide +kernel
theorem dX6_served_222 : decode cX6_served 222 = .ok (.bipush 18, 2) := by decide +kernel
theorem dX6_served_224 : decode cX6_served 224 = .ok (.ireturn, 1) := by decide +kernel
theorem dX6_served_225 : decode cX6_served 225 = .ok (.aload_n 0, 1) := by decide +kernel
theorem dX6_served_226 : decode cX6_served 226 = .ok (.getfield 13, 3) := by decide +kernel
theorem dX6_served_229 : decode cX6_served 229 = .ok (.ifCond .ne 6, 3) := by decide +kernel
theorem dX6_served_232 : decode cX6_served 232 = .ok (.bipush 34, 2) := by decide +kernel
theorem dX6_served_234 : decode cX6_served 234 = .ok (.ireturn, 1) := by decide +kernel
theorem dX6_served_235 : decode cX6_served 235 = .ok (.aload_n 0, 1) := by decide +kernel
theorem dX6_served_236 : decode cX6_served 236 = .ok (.iconst 1, 1) := by decide +kernel
theorem dX6_served_237 : decode cX6_served 237 = .ok (.invokevirtual 141, 3) := by decide +kernel
theorem dX6_served_240 : decode cX6_served 240 = .ok (.iconst 0, 1) := by decide +kernel
theorem dX6_served_241 : decode cX6_served 241 = .ok (.istore_n 3, 1) := by decide +kernel
theorem dX6_served_242 : decode cX6_served 242 = .ok (.iload_n 3, 1) := by decide +kernel
theorem dX6_served_243 : decode cX6_served 243 = .ok (.bipush 10, 2) := by decide +kernel
theorem dX6_served_245 : decode cX6_served 245 = .ok (.if_icmp .ge 23, 3) := by decide +kernel
theorem dX6_served_248 : decode cX6_served 248 = .ok (.aload_n 0, 1) := by decide +kernel
theorem dX6_served_249 : decode cX6_served 249 = .ok (.getfield 62, 3) := by decide +kernel
theorem dX6_served_252 : decode cX6_served 252 = .ok (.iload_n 3, 1) := by decide +kernel
theorem dX6_served_253 : decode cX6_served 253 = .ok (.iconst 0, 1) := by decide +kernel
theorem dX6_served_254 : decode cX6_served 254 = .ok (.bastore, 1) := by decide +kernel
theorem dX6_served_255 : decode cX6_served 255 = .ok (.aload_n 0, 1) := by decide +kernel
theorem dX6_served_256 : decode cX6_served 256 = .ok (.getfield 65, 3) := by decide +kernel
theorem dX6_served_259 : decode cX6_served 259 = .ok (.iload_n 3, 1) := by decide +kernel
theorem dX6_served_260 : decode cX6_served 260 = .ok (.iconst 0, 1) := by decide +kernel
theorem dX6_served_261 : decode cX6_served 261 = .ok (.iastore, 1) := by decide +kernel
theorem dX6_served_262 : decode cX6_served 262 = .ok (.iinc 3 1, 3) := by decide +kernel
theorem dX6_served_265 : decode cX6_served 265 = .ok (.goto (-23), 3) := by decide +kernel
theorem dX6_served_268 : decode cX6_served 268 = .ok (.iconst 0, 1) := by decide +kernel
theorem dX6_served_269 : decode cX6_served 269 = .ok (.istore_n 3, 1) := by decide +kernel
theorem dX6_served_270 : decode cX6_served 270 = .ok (.iload_n 3, 1) := by decide +kernel
theorem dX6_served_271 : decode cX6_served 271 = .ok (.aload_n 0, 1) := by decide +kernel
theorem dX6_served_272 : decode cX6_served 272 = .ok (.getfield 86, 3) := by decide +kernel
theorem dX6_served_275 : decode cX6_served 275 = .ok (.if_icmp .ge 21, 3) := by decide +kernel
theorem dX6_served_278 : decode cX6_served 278 = .ok (.iload_n 2, 1) := by decide +kernel
theorem dX6_served_279 : decode cX6_served 279 = .ok (.iconst 1, 1) := by decide +kernel
theorem dX6_served_280 : decode cX6_served 280 = .ok (.if_icmp .ne 16, 3) := by decide +kernel
theorem dX6_served_283 : decode cX6_served 283 = .ok (.aload_n 0, 1) := by decide +kernel
theorem dX6_served_284 : decode cX6_served 284 = .ok (.getfield 33, 3) := by decide +kernel
theorem dX6_served_287 : decode cX6_served 287 = .ok (.iload_n 3, 1) := by decide +kernel
theorem dX6_served_288 : decode cX6_served 288 = .ok (.lconst 0, 1) := by decide +kernel
theorem dX6_served_289 : decode cX6_served 289 = .ok (.lastore, 1) := by decide +kernel
theorem dX6_served_290 : decode cX6_served 290 = .ok (.iinc 3 1, 3) := by decide +kernel
theorem dX6_served_293 : decode cX6_served 293 = .ok (.goto (-23), 3) := by decide +kernel
theorem dX6_served_296 : decode cX6_served 296 = .ok (.aload_n 0, 1) := by decide +kernel
theorem dX6_served_297 : decode cX6_served 297 = .ok (.bipush 81, 2) := by decide +kernel
theorem dX6_served_299 : decode cX6_served 299 = .ok (.invokevirtual 131, 3) := by decide +kernel
theorem dX6_served_302 : decode cX6_served 302 = .ok (.aload_n 0, 1) := by decide +kernel
theorem dX6_served_303 : decode cX6_served 303 = .ok (.iload_n 2, 1) := by decide +kernel
theorem dX6_served_304 : decode cX6_served 304 = .ok (.invokevirtual 131, 3) := by decide +kernel
theorem dX6_served_307 : decode cX6_served 307 = .ok (.iconst 0, 1) := by decide +kernel
theorem dX6_served_308 : decode cX6_served 308 = .ok (.ireturn, 1) := by decide +kernel
theorem dX6_served_309 : decode cX6_served 309 = .ok (.aload_n 0, 1) := by decide +kernel
theorem dX6_served_310 : decode cX6_served 310 = .ok (.iload_n 1, 1) := by decide +kernel
theorem dX6_served_311 : decode cX6_served 311 = .ok (.invokevirtual 144, 3) := by decide +kernel
theorem dX6_served_314 : decode cX6_served 314 = .ok (.ireturn, 1) := by decide +kernel
theorem dX6_served_315 : decode cX6_served 315 = .ok (.aload_n 0, 1) := by decide +kernel
theorem dX6_served_316 : decode cX6_served 316 = .ok (.iload_n 1, 1) := by decide +kernel
theorem dX6_served_317 : decode cX6_served 317 = .ok (.invokevirtual 147, 3) := by decide +kernel
theorem dX6_served_320 : decode cX6_served 320 = .ok (.ireturn, 1) := by decide +kernel
theorem dX6_served_321 : decode cX6_served 321 = .ok (.aload_n 0, 1) := by decide +kernel
theorem dX6_served_322 : decode cX6_served 322 = .ok (.iload_n 1, 1) := by decide +kernel
theorem dX6_served_323 : decode cX6_served 323 = .ok (.invokevirtual 150, 3) := by decide +kernel
theorem dX6_served_326 : decode cX6_served 326 = .ok (.ireturn, 1) := by decide +kernel
theorem dX6_served_327 : decode cX6_served 327 = .ok (.aload_n 0, 1) := by decide +kernel
theorem dX6_served_328 : decode cX6_served 328 = .ok (.iload_n 1, 1) := by decide +kernel
theorem dX6_served_329 : decode cX6_served 329 = .ok (.iload_n 2, 1) := by decide +kernel
theorem dX6_served_330 : decode cX6_served 330 = .ok (.invokevirtual 153, 3) := by decide +kernel
theorem dX6_served_333 : decode cX6_served 333 = .ok (.ireturn, 1) := by decide +kernel
theorem dX6_served_334 : decode cX6_served 334 = .ok (.aload_n 0, 1) := by decide +kernel
theorem dX6_served_335 : decode cX6_served 335 = .ok (.getfield 7, 3) := by decide +kernel
theorem dX6_served_338 : decode cX6_served 338 = .ok (.iconst 3, 1) := by decide +kernel
theorem dX6_served_339 : decode cX6_served 339 = .ok (.if_icmp .eq 6, 3) := by decide +kernel
theorem dX6_served_342 : decode cX6_served 342 = .ok (.bipush 127, 2) := by decide +kernel
theorem dX6_served_344 : decode cX6_served 344 = .ok (.ireturn, 1) := by decide +kernel
theorem dX6_served_345 : decode cX6_served 345 = .ok (.iload_n 1, 1) := by decide +kernel
theorem dX6_served_346 : decode cX6_served 346 = .ok (.iconst 2, 1) := by decide +kernel
theorem dX6_served_347 : decode cX6_served 347 = .ok (.if_icmp .eq 6, 3) := by decide +kernel
theorem dX6_served_350 : decode cX6_served 350 = .ok (.bipush 19, 2) := by decide +kernel
theorem dX6_served_352 : decode cX6_served 352 = .ok (.ireturn, 1) := by decide +kernel
theorem dX6_served_353 : decode cX6_served 353 = .ok (.aload_n 0, 1) := by decide +kernel
theorem dX6_served_354 : decode cX6_served 354 = .ok (.getfield 135, 3) := by decide +kernel
theorem dX6_served_357 : decode cX6_served 357 = .ok (.ifCond .eq 6, 3) := by decide +kernel
theorem dX6_served_360 : decode cX6_served 360 = .ok (.bipush 112, 2) := by decide +kernel
theorem dX6_served_362 : decode cX6_served 362 = .ok (.ireturn, 1) := by decide +kernel
theorem dX6_served_363 : decode cX6_served 363 = .ok (.aload_n 0, 1) := by decide +kernel
theorem dX6_served_364 : decode cX6_served 364 = .ok (.iconst 1, 1) := by decide +kernel
theorem dX6_served_365 : decode cX6_served 365 = .ok (.invokevirtual 156, 3) := by decide +kernel
theorem dX6_served_368 : decode cX6_served 368 = .ok (.i2l, 1) := by decide +kernel
theorem dX6_served_369 : decode cX6_served 369 = .ok (.lconst 1, 1) := by decide +kernel
theorem dX6_served_370 : decode cX6_served 370 = .ok (.ldc2_w 159, 3) := by decide +kernel
theorem dX6_served_373 : decode cX6_served 373 = .ok (.invokestatic 91, 3) := by decide +kernel
theorem dX6_served_376 : decode cX6_served 376 = .ok (.ifCond .ne 6, 3) := by decide +kernel
theorem dX6_served_379 : decode cX6_served 379 = .ok (.bipush 49, 2) := by decide +kernel
theorem dX6_served_381 : decode cX6_served 381 = .ok (.ireturn, 1) := by decide +kernel
theorem dX6_served_382 : decode cX6_served 382 = .ok (.aload_n 0, 1) := by decide +kernel
theorem dX6_served_383 : decode cX6_served 383 = .ok (.iconst 1, 1) := by decide +kernel
theorem dX6_served_384 : decode cX6_served 384 = .ok (.putfield 135, 3) := by decide +kernel
theorem dX6_served_387 : decode cX6_served 387 = .ok (.aload_n 0, 1) := by decide +kernel
theorem dX6_served_388 : decode cX6_served 388 = .ok (.aload_n 0, 1) := by decide +kernel
theorem dX6_served_389 : decode cX6_served 389 = .ok (.iconst 1, 1) := by decide +kernel
theorem dX6_served_390 : decode cX6_served 390 = .ok (.invokevirtual 156, 3) := by decide +kernel
theorem dX6_served_393 : decode cX6_served 393 = .ok (.putfield 161, 3) := by decide +kernel
theorem dX6_served_396 : decode cX6_served 396 = .ok (.aload_n 0, 1) := by decide +kernel
theorem dX6_served_397 : decode cX6_served 397 = .ok (.iconst 0, 1) := by decide +kernel
theorem dX6_served_398 : decode cX6_served 398 = .ok (.putfield 164, 3) := by decide +kernel
theorem dX6_served_401 : decode cX6_served 401 = .ok (.aload_n 0, 1) := by decide +kernel
theorem dX6_served_402 : decode cX6_served 402 = .ok (.iconst 0, 1) := by decide +kernel
theorem dX6_served_403 : decode cX6_served 403 = .ok (.putfield 167, 3) := by decide +kernel
theorem dX6_served_406 : decode cX6_served 406 = .ok (.aload_n 0, 1) := by decide +kernel
theorem dX6_served_407 : decode cX6_served 407 = .ok (.iconst 0, 1) := by decide +kernel
theorem dX6_served_408 : decode cX6_served 408 = .ok (.putfield 170, 3) := by decide +kernel
theorem dX6_served_411 : decode cX6_served 411 = .ok (.aload_n 0, 1) := by decide +kernel
theorem dX6_served_412 : decode cX6_served 412 = .ok (.bipush 116, 2) := by decide +kernel
theorem dX6_served_414 : decode cX6_served 414 = .ok (.invokevirtual 131, 3) := by decide +kernel
theorem dX6_served_417 : decode cX6_served 417 = .ok (.aload_n 0, 1) := by decide +kernel
theorem dX6_served_418 : decode cX6_served 418 = .ok (.bipush 8, 2) := by decide +kernel
theorem dX6_served_420 : decode cX6_served 420 = .ok (.invokevirtual 131, 3) := by decide +kernel
theorem dX6_served_423 : decode cX6_served 423 = .ok (.iconst 0, 1) := by decide +kernel
theorem dX6_served_424 : decode cX6_served 424 = .ok (.ireturn, 1) := by decide +kernel
theorem dX6_served_425 : decode cX6_served 425 = .ok (.aload_n 0, 1) := by decide +kernel
theorem dX6_served_426 : decode cX6_served 426 = .ok (.iload_n 1, 1) := by decide +kernel
theorem dX6_served_427 : decode cX6_served 427 = .ok (.invokevirtual 173, 3) := by decide +kernel
theorem dX6_served_430 : decode cX6_served 430 = .ok (.ireturn, 1) := by decide +kernel
theorem dX6_served_431 : decode cX6_served 431 = .ok (.aload_n 0, 1) := by decide +kernel
theorem dX6_served_432 : decode cX6_served 432 = .ok (.getfield 7, 3) := by decide +kernel
theorem dX6_served_435 : decode cX6_served 435 = .ok (.iconst 3, 1) := by decide +kernel
theorem dX6_served_436 : decode cX6_served 436 = .ok (.if_icmp .eq 6, 3) := by decide +kernel
theorem dX6_served_439 : decode cX6_served 439 = .ok (.bipush 127, 2) := by decide +kernel
theorem dX6_served_441 : decode cX6_served 441 = .ok (.ireturn, 1) := by decide +kernel
theorem dX6_served_442 : decode cX6_served 442 = .ok (.iload_n 1, 1) := by decide +kernel
theorem dX6_served_443 : decode cX6_served 443 = .ok (.ifCond .eq 6, 3) := by decide +kernel
theorem dX6_served_446 : decode cX6_served 446 = .ok (.bipush 19, 2) := by decide +kernel
theorem dX6_served_448 : decode cX6_served 448 = .ok (.ireturn, 1) := by decide +kernel
theorem dX6_served_449 : decode cX6_served 449 = .ok (.aload_n 0, 1) := by decide +kernel
theorem dX6_served_450 : decode cX6_served 450 = .ok (.getfield 135, 3) := by decide +kernel
theorem dX6_served_453 : decode cX6_served 453 = .ok (.ifCond .eq 14, 3) := by decide +kernel
theorem dX6_served_456 : decode cX6_served 456 = .ok (.aload_n 0, 1) := by decide +kernel
theorem dX6_served_457 : decode cX6_served 457 = .ok (.getfield 164, 3) := by decide +kernel
theorem dX6_served_460 : decode cX6_served 460 = .ok (.aload_n 0, 1) := by decide +kernel
theorem dX6_served_461 : decode cX6_served 461 = .ok (.getfield 161, 3) := by decide +kernel
theorem dX6_served_464 : decode cX6_served 464 = .ok (.if_icmp .ge 6, 3) := by decide +kernel
theorem dX6_served_467 : decode cX6_served 467 = .ok (.bipush 36, 2) := by decide +kernel
theorem dX6_served_469 : decode cX6_served 469 = .ok (.ireturn, 1) := by decide +kernel
theorem dX6_served_470 : decode cX6_served 470 = .ok (.aload_n 0, 1) := by decide +kernel
theorem dX6_served_471 : decode cX6_served 471 = .ok (.iconst 0, 1) := by decide +kernel
theorem dX6_served_472 : decode cX6_served 472 = .ok (.putfield 135, 3) := by decide +kernel
theorem dX6_served_475 : decode cX6_served 475 = .ok (.aload_n 0, 1) := by decide +kernel
theorem dX6_served_476 : decode cX6_served 476 = .ok (.bipush 119, 2) := by decide +kernel
theorem dX6_served_478 : decode cX6_served 478 = .ok (.aload_n 0, 1) := by decide +kernel
theorem dX6_served_479 : decode cX6_served 479 = .ok (.getfield 167, 3) := by decide +kernel
theorem dX6_served_482 : decode cX6_served 482 = .ok (.bipush 8, 2) := by decide +kernel
theorem dX6_served_484 : decode cX6_served 484 = .ok (.ishr, 1) := by decide +kernel
theorem dX6_served_485 : decode cX6_served 485 = .ok (.aload_n 0, 1) := by decide +kernel
theorem dX6_served_486 : decode cX6_served 486 = .ok (.getfield 167, 3) := by decide +kernel
theorem dX6_served_489 : decode cX6_served 489 = .ok (.invokevirtual 176, 3) := by decide +kernel
theorem dX6_served_492 : decode cX6_served 492 = .ok (.iconst 0, 1) := by decide +kernel
theorem dX6_served_493 : decode cX6_served 493 = .ok (.ireturn, 1) := by decide +kernel
theorem dX6_served_494 : decode cX6_served 494 = .ok (.bipush 17, 2) := by decide +kernel
theorem dX6_served_496 : decode cX6_served 496 = .ok (.ireturn, 1) := by decide +kernel
theorem dX6_read_0 : decode cX6_read 0 = .ok (.iload_n 1, 1) := by decide +kernel
theorem dX6_read_1 : decode cX6_read 1 = .ok (.iconst 2, 1) := by decide +kernel
theorem dX6_read_2 : decode cX6_read 2 = .ok (.if_icmp .lt 16, 3) := by decide +kernel
theorem dX6_read_5 : decode cX6_read 5 = .ok (.iload_n 1, 1) := by decide +kernel
theorem dX6_read_6 : decode cX6_read 6 = .ok (.bipush 8, 2) := by decide +kernel
theorem dX6_read_8 : decode cX6_read 8 = .ok (.if_icmp .gt 10, 3) := by decide +kernel
theorem dX6_read_11 : decode cX6_read 11 = .ok (.iload_n 1, 1) := by decide +kernel
theorem dX6_read_12 : decode cX6_read 12 = .ok (.iconst 2, 1) := by decide +kernel
theorem dX6_read_13 : decode cX6_read 13 = .ok (.irem, 1) := by decide +kernel
theorem dX6_read_14 : decode cX6_read 14 = .ok (.iconst 1, 1) := by decide +kernel
theorem dX6_read_15 : decode cX6_read 15 = .ok (.if_icmp .ne 6, 3) := by decide +kernel
theorem dX6_read_18 : decode cX6_read 18 = .ok (.bipush 19, 2) := by decide +kernel
theorem dX6_read_20 : decode cX6_read 20 = .ok (.ireturn, 1) := by decide +kernel
theorem dX6_read_21 : decode cX6_read 21 = .ok (.iconst 0, 1) := by decide +kernel
theorem dX6_read_22 : decode cX6_read 22 = .ok (.istore_n 2, 1) := by decide +kernel
theorem dX6_read_23 : decode cX6_read 23 = .ok (.iconst 1, 1) := by decide +kernel
theorem dX6_read_24 : decode cX6_read 24 = .ok (.istore_n 3, 1) := by decide +kernel
theorem dX6_read_25 : decode cX6_read 25 = .ok (.iconst 1, 1) := by decide +kernel
theorem dX6_read_26 : decode cX6_read 26 = .ok (.istore 4, 2) := by decide +kernel
theorem dX6_read_28 : decode cX6_read 28 = .ok (.iload 4, 2) := by decide +kernel
theorem dX6_read_30 : decode cX6_read 30 = .ok (.aload_n 0, 1) := by decide +kernel
theorem dX6_read_31 : decode cX6_read 31 = .ok (.getfield 138, 3) := by decide +kernel
theorem dX6_read_34 : decode cX6_read 34 = .ok (.if_icmp .ge 59, 3) := by decide +kernel
theorem dX6_read_37 : decode cX6_read 37 = .ok (.aload_n 0, 1) := by decide +kernel
theorem dX6_read_38 : decode cX6_read 38 = .ok (.aload_n 0, 1) := by decide +kernel
theorem dX6_read_39 : decode cX6_read 39 = .ok (.iload 4, 2) := by decide +kernel
theorem dX6_read_41 : decode cX6_read 41 = .ok (.invokevirtual 156, 3) := by decide +kernel
theorem dX6_read_44 : decode cX6_read 44 = .ok (.invokevirtual 99, 3) := by decide +kernel
theorem dX6_read_47 : decode cX6_read 47 = .ok (.istore 5, 2) := by decide +kernel
theorem dX6_read_49 : decode cX6_read 49 = .ok (.aload_n 0, 1) := by decide +kernel
theorem dX6_read_50 : decode cX6_read 50 = .ok (.iload 5, 2) := by decide +kernel
theorem dX6_read_52 : decode cX6_read 52 = .ok (.invokevirtual 180, 3) := by decide +kernel
theorem dX6_read_55 : decode cX6_read 55 = .ok (.ifCond .ne 6, 3) := by decide +kernel
theorem dX6_read_58 : decode cX6_read 58 = .ok (.goto 29, 3) := by decide +kernel
theorem dX6_read_61 : decode cX6_read 61 = .ok (.iconst 1, 1) := by decide +kernel
theorem dX6_read_62 : decode cX6_read 62 = .ok (.istore_n 2, 1) := by decide +kernel
theorem dX6_read_63 : decode cX6_read 63 = .ok (.iload_n 3, 1) := by decide +kernel
theorem dX6_read_64 : decode cX6_read 64 = .ok (.ifCond .eq 21, 3) := by decide +kernel
theorem dX6_read_67 : decode cX6_read 67 = .ok (.aload_n 0, 1) := by decide +kernel
theorem dX6_read_68 : decode cX6_read 68 = .ok (.getfield 30, 3) := by decide +kernel
theorem dX6_read_71 : decode cX6_read 71 = .ok (.iload 5, 2) := by decide +kernel
theorem dX6_read_73 : decode cX6_read 73 = .ok (.iaload, 1) := by decide +kernel
theorem dX6_read_74 : decode cX6_read 74 = .ok (.aload_n 0, 1) := by decide +kernel
theorem dX6_read_75 : decode cX6_read 75 = .ok (.getfield 112, 3) := by decide +kernel
theorem dX6_read_78 : decode cX6_read 78 = .ok (.if_icmp .gt 7, 3) := by decide +kernel
theorem dX6_read_81 : decode cX6_read 81 = .ok (.iconst 1, 1) := by decide +kernel
theorem dX6_read_82 : decode cX6_read 82 = .ok (.goto 4, 3) := by decide +kernel
theorem dX6_read_85 : decode cX6_read 85 = .ok (.iconst 0, 1) := by decide +kernel
theorem dX6_read_86 : decode cX6_read 86 = .ok (.istore_n 3, 1) := by decide +kernel
theorem dX6_read_87 : decode cX6_read 87 = .ok (.iinc 4 2, 3) := by decide +kernel
theorem dX6_read_90 : decode cX6_read 90 = .ok (.goto (-62), 3) := by decide +kernel
theorem dX6_read_93 : decode cX6_read 93 = .ok (.iload_n 2, 1) := by decide +kernel
theorem dX6_read_94 : decode cX6_read 94 = .ok (.ifCond .ne 6, 3) := by decide +kernel
theorem dX6_read_97 : decode cX6_read 97 = .ok (.bipush 49, 2) := by decide +kernel
theorem dX6_read_99 : decode cX6_read 99 = .ok (.ireturn, 1) := by decide +kernel
theorem dX6_read_100 : decode cX6_read 100 = .ok (.iload_n 3, 1) := by decide +kernel
theorem dX6_read_101 : decode cX6_read 101 = .ok (.ifCond .ne 6, 3) := by decide +kernel
theorem dX6_read_104 : decode cX6_read 104 = .ok (.bipush 51, 2) := by decide +kernel
theorem dX6_read_106 : decode cX6_read 106 = .ok (.ireturn, 1) := by decide +kernel
theorem dX6_read_107 : decode cX6_read 107 = .ok (.aload_n 0, 1) := by decide +kernel
theorem dX6_read_108 : decode cX6_read 108 = .ok (.bipush 98, 2) := by decide +kernel
theorem dX6_read_110 : decode cX6_read 110 = .ok (.invokevirtual 131, 3) := by decide +kernel
theorem dX6_read_113 : decode cX6_read 113 = .ok (.iconst 1, 1) := by decide +kernel
theorem dX6_read_114 : decode cX6_read 114 = .ok (.istore 4, 2) := by decide +kernel
theorem dX6_read_116 : decode cX6_read 116 = .ok (.iload 4, 2) := by decide +kernel
theorem dX6_read_118 : decode cX6_read 118 = .ok (.aload_n 0, 1) := by decide +kernel
theorem dX6_read_119 : decode cX6_read 119 = .ok (.getfield 138, 3) := by decide +kernel
theorem dX6_read_122 : decode cX6_read 122 = .ok (.if_icmp .ge 90, 3) := by decide +kernel
theorem dX6_read_125 : decode cX6_read 125 = .ok (.aload_n 0, 1) := by decide +kernel
theorem dX6_read_126 : decode cX6_read 126 = .ok (.aload_n 0, 1) := by decide +kernel
theorem dX6_read_127 : decode cX6_read 127 = .ok (.iload 4, 2) := by decide +kernel
theorem dX6_read_129 : decode cX6_read 129 = .ok (.invokevirtual 156, 3) := by decide +kernel
theorem dX6_read_132 : decode cX6_read 132 = .ok (.invokevirtual 99, 3) := by decide +kernel
theorem dX6_read_135 : decode cX6_read 135 = .ok (.istore 5, 2) := by decide +kernel
theorem dX6_read_137 : decode cX6_read 137 = .ok (.aload_n 0, 1) := by decide +kernel
theorem dX6_read_138 : decode cX6_read 138 = .ok (.iload 5, 2) := by decide +kernel
theorem dX6_read_140 : decode cX6_read 140 = .ok (.invokevirtual 180, 3) := by decide +kernel
theorem dX6_read_143 : decode cX6_read 143 = .ok (.ifCond .ne 6, 3) := by decide +kernel
theorem dX6_read_146 : decode cX6_read 146 = .ok (.goto 60, 3) := by decide +kernel
theorem dX6_read_149 : decode cX6_read 149 = .ok (.aload_n 0, 1) := by decide +kernel
theorem dX6_read_150 : decode cX6_read 150 = .ok (.aload_n 0, 1) := by decide +kernel
theorem dX6_read_151 : decode cX6_read 151 = .ok (.getfield 74, 3) := by decide +kernel
theorem dX6_read_154 : decode cX6_read 154 = .ok (.iload 4, 2) := by decide +kernel
theorem dX6_read_156 : decode cX6_read 156 = .ok (.iaload, 1) := by decide +kernel
theorem dX6_read_157 : decode cX6_read 157 = .ok (.invokevirtual 131, 3) := by decide +kernel
theorem dX6_read_160 : decode cX6_read 160 = .ok (.aload_n 0, 1) := by decide +kernel
theorem dX6_read_161 : decode cX6_read 161 = .ok (.aload_n 0, 1) := by decide +kernel
theorem dX6_read_162 : decode cX6_read 162 = .ok (.getfield 74, 3) := by decide +kernel
theorem dX6_read_165 : decode cX6_read 165 = .ok (.iload 4, 2) := by decide +kernel
theorem dX6_read_167 : decode cX6_read 167 = .ok (.iconst 1, 1) := by decide +kernel
theorem dX6_read_168 : decode cX6_read 168 = .ok (.iadd, 1) := by decide +kernel
theorem dX6_read_169 : decode cX6_read 169 = .ok (.iaload, 1) := by decide +kernel
theorem dX6_read_170 : decode cX6_read 170 = .ok (.invokevirtual 131, 3) := by decide +kernel
theorem dX6_read_173 : decode cX6_read 173 = .ok (.iconst 0, 1) := by decide +kernel
theorem dX6_read_174 : decode cX6_read 174 = .ok (.istore 6, 2) := by decide +kernel
theorem dX6_read_176 : decode cX6_read 176 = .ok (.iload 6, 2) := by decide +kernel
theorem dX6_read_178 : decode cX6_read 178 = .ok (.aload_n 0, 1) := by decide +kernel
theorem dX6_read_179 : decode cX6_read 179 = .ok (.getfield 24, 3) := by decide +kernel
theorem dX6_read_182 : decode cX6_read 182 = .ok (.iload 5, 2) := by decide +kernel
theorem dX6_read_184 : decode cX6_read 184 = .ok (.iaload, 1) := by decide +kernel
theorem dX6_read_185 : decode cX6_read 185 = .ok (.if_icmp .ge 21, 3) := by decide +kernel
theorem dX6_read_188 : decode cX6_read 188 = .ok (.aload_n 0, 1) := by decide +kernel
theorem dX6_read_189 : decode cX6_read 189 = .ok (.aload_n 0, 1) := by decide +kernel
theorem dX6_read_190 : decode cX6_read 190 = .ok (.iload 5, 2) := by decide +kernel
theorem dX6_read_192 : decode cX6_read 192 = .ok (.iload 6, 2) := by decide +kernel
theorem dX6_read_194 : decode cX6_read 194 = .ok (.invokevirtual 120, 3) := by decide +kernel
theorem dX6_read_197 : decode cX6_read 197 = .ok (.invokevirtual 131, 3) := by decide +kernel
theorem dX6_read_200 : decode cX6_read 200 = .ok (.iinc 6 1, 3) := by decide +kernel
theorem dX6_read_203 : decode cX6_read 203 = .ok (.goto (-27), 3) := by decide +kernel
theorem dX6_read_206 : decode cX6_read 206 = .ok (.iinc 4 2, 3) := by decide +kernel
theorem dX6_read_209 : decode cX6_read 209 = .ok (.goto (-93), 3) := by decide +kernel
theorem dX6_read_212 : decode cX6_read 212 = .ok (.iconst 0, 1) := by decide +kernel
theorem dX6_read_213 : decode cX6_read 213 = .ok (.ireturn, 1) := by decide +kernel
theorem dX6_write_0 : decode cX6_write 0 = .ok (.iload_n 1, 1) := by decide +kernel
theorem dX6_write_1 : decode cX6_write 1 = .ok (.iconst 3, 1) := by decide +kernel
theorem dX6_write_2 : decode cX6_write 2 = .ok (.if_icmp .ge 6, 3) := by decide +kernel
theorem dX6_write_5 : decode cX6_write 5 = .ok (.bipush 19, 2) := by decide +kernel
theorem dX6_write_7 : decode cX6_write 7 = .ok (.ireturn, 1) := by decide +kernel
theorem dX6_write_8 : decode cX6_write 8 = .ok (.aload_n 0, 1) := by decide +kernel
theorem dX6_write_9 : decode cX6_write 9 = .ok (.aload_n 0, 1) := by decide +kernel
theorem dX6_write_10 : decode cX6_write 10 = .ok (.iconst 1, 1) := by decide +kernel
theorem dX6_write_11 : decode cX6_write 11 = .ok (.invokevirtual 156, 3) := by decide +kernel
theorem dX6_write_14 : decode cX6_write 14 = .ok (.invokevirtual 99, 3) := by decide +kernel
theorem dX6_write_17 : decode cX6_write 17 = .ok (.istore_n 2, 1) := by decide +kernel
theorem dX6_write_18 : decode cX6_write 18 = .ok (.aload_n 0, 1) := by decide +kernel
theorem dX6_write_19 : decode cX6_write 19 = .ok (.iload_n 2, 1) := by decide +kernel
theorem dX6_write_20 : decode cX6_write 20 = .ok (.invokevirtual 180, 3) := by decide +kernel
theorem dX6_write_23 : decode cX6_write 23 = .ok (.ifCond .eq 21, 3) := by decide +kernel
theorem dX6_write_26 : decode cX6_write 26 = .ok (.aload_n 0, 1) := by decide +kernel
theorem dX6_write_27 : decode cX6_write 27 = .ok (.getfield 47, 3) := by decide +kernel
theorem dX6_write_30 : decode cX6_write 30 = .ok (.iload_n 2, 1) := by decide +kernel
theorem dX6_write_31 : decode cX6_write 31 = .ok (.baload, 1) := by decide +kernel
theorem dX6_write_32 : decode cX6_write 32 = .ok (.ifCond .ne 12, 3) := by decide +kernel
theorem dX6_write_35 : decode cX6_write 35 = .ok (.aload_n 0, 1) := by decide +kernel
theorem dX6_write_36 : decode cX6_write 36 = .ok (.getfield 44, 3) := by decide +kernel
theorem dX6_write_39 : decode cX6_write 39 = .ok (.iload_n 2, 1) := by decide +kernel
theorem dX6_write_40 : decode cX6_write 40 = .ok (.baload, 1) := by decide +kernel
theorem dX6_write_41 : decode cX6_write 41 = .ok (.ifCond .eq 6, 3) := by decide +kernel
theorem dX6_write_44 : decode cX6_write 44 = .ok (.bipush 49, 2) := by decide +kernel
theorem dX6_write_46 : decode cX6_write 46 = .ok (.ireturn, 1) := by decide +kernel
theorem dX6_write_47 : decode cX6_write 47 = .ok (.iload_n 1, 1) := by decide +kernel
theorem dX6_write_48 : decode cX6_write 48 = .ok (.iconst 2, 1) := by decide +kernel
theorem dX6_write_49 : decode cX6_write 49 = .ok (.isub, 1) := by decide +kernel
theorem dX6_write_50 : decode cX6_write 50 = .ok (.aload_n 0, 1) := by decide +kernel
theorem dX6_write_51 : decode cX6_write 51 = .ok (.getfield 24, 3) := by decide +kernel
theorem dX6_write_54 : decode cX6_write 54 = .ok (.iload_n 2, 1) := by decide +kernel
theorem dX6_write_55 : decode cX6_write 55 = .ok (.iaload, 1) := by decide +kernel
theorem dX6_write_56 : decode cX6_write 56 = .ok (.if_icmp .eq 6, 3) := by decide +kernel
theorem dX6_write_59 : decode cX6_write 59 = .ok (.bipush 19, 2) := by decide +kernel
theorem dX6_write_61 : decode cX6_write 61 = .ok (.ireturn, 1) := by decide +kernel
theorem dX6_write_62 : decode cX6_write 62 = .ok (.aload_n 0, 1) := by decide +kernel
theorem dX6_write_63 : decode cX6_write 63 = .ok (.getfield 30, 3) := by decide +kernel
theorem dX6_write_66 : decode cX6_write 66 = .ok (.iload_n 2, 1) := by decide +kernel
theorem dX6_write_67 : decode cX6_write 67 = .ok (.iaload, 1) := by decide +kernel
theorem dX6_write_68 : decode cX6_write 68 = .ok (.aload_n 0, 1) := by decide +kernel
theorem dX6_write_69 : decode cX6_write 69 = .ok (.getfield 112, 3) := by decide +kernel
theorem dX6_write_72 : decode cX6_write 72 = .ok (.if_icmp .le 6, 3) := by decide +kernel
theorem dX6_write_75 : decode cX6_write 75 = .ok (.bipush 51, 2) := by decide +kernel
theorem dX6_write_77 : decode cX6_write 77 = .ok (.ireturn, 1) := by decide +kernel
theorem dX6_write_78 : decode cX6_write 78 = .ok (.aload_n 0, 1) := by decide +kernel
theorem dX6_write_79 : decode cX6_write 79 = .ok (.getfield 13, 3) := by decide +kernel
theorem dX6_write_82 : decode cX6_write 82 = .ok (.ifCond .ne 6, 3) := by decide +kernel
theorem dX6_write_85 : decode cX6_write 85 = .ok (.bipush 34, 2) := by decide +kernel
theorem dX6_write_87 : decode cX6_write 87 = .ok (.ireturn, 1) := by decide +kernel
theorem dX6_write_88 : decode cX6_write 88 = .ok (.aload_n 0, 1) := by decide +kernel
theorem dX6_write_89 : decode cX6_write 89 = .ok (.getfield 33, 3) := by decide +kernel
theorem dX6_write_92 : decode cX6_write 92 = .ok (.iload_n 2, 1) := by decide +kernel
theorem dX6_write_93 : decode cX6_write 93 = .ok (.aload_n 0, 1) := by decide +kernel
theorem dX6_write_94 : decode cX6_write 94 = .ok (.iconst 3, 1) := by decide +kernel
theorem dX6_write_95 : decode cX6_write 95 = .ok (.aload_n 0, 1) := by decide +kernel
theorem dX6_write_96 : decode cX6_write 96 = .ok (.getfield 24, 3) := by decide +kernel
theorem dX6_write_99 : decode cX6_write 99 = .ok (.iload_n 2, 1) := by decide +kernel
theorem dX6_write_100 : decode cX6_write 100 = .ok (.iaload, 1) := by decide +kernel
theorem dX6_write_101 : decode cX6_write 101 = .ok (.invokevirtual 184, 3) := by decide +kernel
theorem dX6_write_104 : decode cX6_write 104 = .ok (.lastore, 1) := by decide +kernel
theorem dX6_write_105 : decode cX6_write 105 = .ok (.aload_n 0, 1) := by decide +kernel
theorem dX6_write_106 : decode cX6_write 106 = .ok (.bipush 110, 2) := by decide +kernel
theorem dX6_write_108 : decode cX6_write 108 = .ok (.aload_n 0, 1) := by decide +kernel
theorem dX6_write_109 : decode cX6_write 109 = .ok (.getfield 74, 3) := by decide +kernel
theorem dX6_write_112 : decode cX6_write 112 = .ok (.iconst 1, 1) := by decide +kernel
theorem dX6_write_113 : decode cX6_write 113 = .ok (.iaload, 1) := by decide +kernel
theorem dX6_write_114 : decode cX6_write 114 = .ok (.aload_n 0, 1) := by decide +kernel
theorem dX6_write_115 : decode cX6_write 115 = .ok (.getfield 74, 3) := by decide +kernel
theorem dX6_write_118 : decode cX6_write 118 = .ok (.iconst 2, 1) := by decide +kernel
theorem dX6_write_119 : decode cX6_write 119 = .ok (.iaload, 1) := by decide +kernel
theorem dX6_write_120 : decode cX6_write 120 = .ok (.invokevirtual 176, 3) := by decide +kernel
theorem dX6_write_123 : decode cX6_write 123 = .ok (.iconst 0, 1) := by decide +kernel
theorem dX6_write_124 : decode cX6_write 124 = .ok (.ireturn, 1) := by decide +kernel
theorem dX6_controls_0 : decode cX6_controls 0 = .ok (.aload_n 0, 1) := by decide +kernel
theorem dX6_controls_1 : decode cX6_controls 1 = .ok (.getfield 7, 3) := by decide +kernel
theorem dX6_controls_4 : decode cX6_controls 4 = .ok (.iconst 1, 1) := by decide +kernel
theorem dX6_controls_5 : decode cX6_controls 5 = .ok (.if_icmp .ne 6, 3) := by decide +kernel
theorem dX6_controls_8 : decode cX6_controls 8 = .ok (.bipush 127, 2) := by decide +kernel
theorem dX6_controls_10 : decode cX6_controls 10 = .ok (.ireturn, 1) := by decide +kernel
theorem dX6_controls_11 : decode cX6_controls 11 = .ok (.iload_n 1, 1) := by decide +kernel
theorem dX6_controls_12 : decode cX6_controls 12 = .ok (.iconst 3, 1) := by decide +kernel
theorem dX6_controls_13 : decode cX6_controls 13 = .ok (.if_icmp .ge 6, 3) := by decide +kernel
theorem dX6_controls_16 : decode cX6_controls 16 = .ok (.bipush 19, 2) := by decide +kernel
theorem dX6_controls_18 : decode cX6_controls 18 = .ok (.ireturn, 1) := by decide +kernel
theorem dX6_controls_19 : decode cX6_controls 19 = .ok (.aload_n 0, 1) := by decide +kernel
theorem dX6_controls_20 : decode cX6_controls 20 = .ok (.aload_n 0, 1) := by decide +kernel
theorem dX6_controls_21 : decode cX6_controls 21 = .ok (.iconst 1, 1) := by decide +kernel
theorem dX6_controls_22 : decode cX6_controls 22 = .ok (.invokevirtual 156, 3) := by decide +kernel
theorem dX6_controls_25 : decode cX6_controls 25 = .ok (.invokevirtual 99, 3) := by decide +kernel
theorem dX6_controls_28 : decode cX6_controls 28 = .ok (.istore_n 2, 1) := by decide +kernel
theorem dX6_controls_29 : decode cX6_controls 29 = .ok (.aload_n 0, 1) := by decide +kernel
theorem dX6_controls_30 : decode cX6_controls 30 = .ok (.iload_n 2, 1) := by decide +kernel
theorem dX6_controls_31 : decode cX6_controls 31 = .ok (.invokevirtual 180, 3) := by decide +kernel
theorem dX6_controls_34 : decode cX6_controls 34 = .ok (.ifCond .eq 12, 3) := by decide +kernel
theorem dX6_controls_37 : decode cX6_controls 37 = .ok (.aload_n 0, 1) := by decide +kernel
theorem dX6_controls_38 : decode cX6_controls 38 = .ok (.getfield 47, 3) := by decide +kernel
theorem dX6_controls_41 : decode cX6_controls 41 = .ok (.iload_n 2, 1) := by decide +kernel
theorem dX6_controls_42 : decode cX6_controls 42 = .ok (.baload, 1) := by decide +kernel
theorem dX6_controls_43 : decode cX6_controls 43 = .ok (.ifCond .eq 6, 3) := by decide +kernel
theorem dX6_controls_46 : decode cX6_controls 46 = .ok (.bipush 49, 2) := by decide +kernel
theorem dX6_controls_48 : decode cX6_controls 48 = .ok (.ireturn, 1) := by decide +kernel
theorem dX6_controls_49 : decode cX6_controls 49 = .ok (.aload_n 0, 1) := by decide +kernel
theorem dX6_controls_50 : decode cX6_controls 50 = .ok (.getfield 30, 3) := by decide +kernel
theorem dX6_controls_53 : decode cX6_controls 53 = .ok (.iload_n 2, 1) := by decide +kernel
theorem dX6_controls_54 : decode cX6_controls 54 = .ok (.iaload, 1) := by decide +kernel
theorem dX6_controls_55 : decode cX6_controls 55 = .ok (.aload_n 0, 1) := by decide +kernel
theorem dX6_controls_56 : decode cX6_controls 56 = .ok (.getfield 112, 3) := by decide +kernel
theorem dX6_controls_59 : decode cX6_controls 59 = .ok (.if_icmp .le 6, 3) := by decide +kernel
theorem dX6_controls_62 : decode cX6_controls 62 = .ok (.bipush 51, 2) := by decide +kernel
theorem dX6_controls_64 : decode cX6_controls 64 = .ok (.ireturn, 1) := by decide +kernel
theorem dX6_controls_65 : decode cX6_controls 65 = .ok (.aload_n 0, 1) := by decide +kernel
theorem dX6_controls_66 : decode cX6_controls 66 = .ok (.getfield 74, 3) := by decide +kernel
theorem dX6_controls_69 : decode cX6_controls 69 = .ok (.iconst 3, 1) := by decide +kernel
theorem dX6_controls_70 : decode cX6_controls 70 = .ok (.iaload, 1) := by decide +kernel
theorem dX6_controls_71 : decode cX6_controls 71 = .ok (.istore_n 3, 1) := by decide +kernel
theorem dX6_controls_72 : decode cX6_controls 72 = .ok (.iload_n 3, 1) := by decide +kernel
theorem dX6_controls_73 : decode cX6_controls 73 = .ok (.iconst 3, 1) := by decide +kernel
theorem dX6_controls_74 : decode cX6_controls 74 = .ok (.if_icmp .le 6, 3) := by decide +kernel
theorem dX6_controls_77 : decode cX6_controls 77 = .ok (.bipush 49, 2) := by decide +kernel
theorem dX6_controls_79 : decode cX6_controls 79 = .ok (.ireturn, 1) := by decide +kernel
theorem dX6_controls_80 : decode cX6_controls 80 = .ok (.iload_n 1, 1) := by decide +kernel
theorem dX6_controls_81 : decode cX6_controls 81 = .ok (.iload_n 3, 1) := by decide +kernel
theorem dX6_controls_82 : decode cX6_controls 82 = .ok (.iconst 3, 1) := by decide +kernel
theorem dX6_controls_83 : decode cX6_controls 83 = .ok (.if_icmp .ne 14, 3) := by decide +kernel
theorem dX6_controls_86 : decode cX6_controls 86 = .ok (.iconst 3, 1) := by decide +kernel
theorem dX6_controls_87 : decode cX6_controls 87 = .ok (.aload_n 0, 1) := by decide +kernel
theorem dX6_controls_88 : decode cX6_controls 88 = .ok (.getfield 24, 3) := by decide +kernel
theorem dX6_controls_91 : decode cX6_controls 91 = .ok (.iload_n 2, 1) := by decide +kernel
theorem dX6_controls_92 : decode cX6_controls 92 = .ok (.iaload, 1) := by decide +kernel
theorem dX6_controls_93 : decode cX6_controls 93 = .ok (.iadd, 1) := by decide +kernel
theorem dX6_controls_94 : decode cX6_controls 94 = .ok (.goto 4, 3) := by decide +kernel
theorem dX6_controls_97 : decode cX6_controls 97 = .ok (.iconst 3, 1) := by decide +kernel
theorem dX6_controls_98 : decode cX6_controls 98 = .ok (.if_icmp .eq 6, 3) := by decide +kernel
theorem dX6_controls_101 : decode cX6_controls 101 = .ok (.bipush 19, 2) := by decide +kernel
theorem dX6_controls_103 : decode cX6_controls 103 = .ok (.ireturn, 1) := by decide +kernel
theorem dX6_controls_104 : decode cX6_controls 104 = .ok (.iload_n 3, 1) := by decide +kernel
theorem dX6_controls_105 : decode cX6_controls 105 = .ok (.iconst 1, 1) := by decide +kernel
theorem dX6_controls_106 : decode cX6_controls 106 = .ok (.if_icmp .ne 7, 3) := by decide +kernel
theorem dX6_controls_109 : decode cX6_controls 109 = .ok (.lconst 0, 1) := by decide +kernel
theorem dX6_controls_110 : decode cX6_controls 110 = .ok (.goto 36, 3) := by decide +kernel
theorem dX6_controls_113 : decode cX6_controls 113 = .ok (.iload_n 3, 1) := by decide +kernel
theorem dX6_controls_114 : decode cX6_controls 114 = .ok (.iconst 2, 1) := by decide +kernel
theorem dX6_controls_115 : decode cX6_controls 115 = .ok (.if_icmp .ne 11, 3) := by decide +kernel
theorem dX6_controls_118 : decode cX6_controls 118 = .ok (.aload_n 0, 1) := by decide +kernel
theorem dX6_controls_119 : decode cX6_controls 119 = .ok (.iload_n 2, 1) := by decide +kernel
theorem dX6_controls_120 : decode cX6_controls 120 = .ok (.invokevirtual 124, 3) := by decide +kernel
theorem dX6_controls_123 : decode cX6_controls 123 = .ok (.goto 23, 3) := by decide +kernel
theorem dX6_controls_126 : decode cX6_controls 126 = .ok (.iload_n 3, 1) := by decide +kernel
theorem dX6_controls_127 : decode cX6_controls 127 = .ok (.iconst 3, 1) := by decide +kernel
theorem dX6_controls_128 : decode cX6_controls 128 = .ok (.if_icmp .ne 17, 3) := by decide +kernel
theorem dX6_controls_131 : decode cX6_controls 131 = .ok (.aload_n 0, 1) := by decide +kernel
theorem dX6_controls_132 : decode cX6_controls 132 = .ok (.iconst 4, 1) := by decide +kernel
theorem dX6_controls_133 : decode cX6_controls 133 = .ok (.aload_n 0, 1) := by decide +kernel
theorem dX6_controls_134 : decode cX6_controls 134 = .ok (.getfield 24, 3) := by decide +kernel
theorem dX6_controls_137 : decode cX6_controls 137 = .ok (.iload_n 2, 1) := by decide +kernel
theorem dX6_controls_138 : decode cX6_controls 138 = .ok (.iaload, 1) := by decide +kernel
theorem dX6_controls_139 : decode cX6_controls 139 = .ok (.invokevirtual 184, 3) := by decide +kernel
theorem dX6_controls_142 : decode cX6_controls 142 = .ok (.goto 4, 3) := by decide +kernel
theorem dX6_controls_145 : decode cX6_controls 145 = .ok (.lconst 0, 1) := by decide +kernel
theorem dX6_controls_146 : decode cX6_controls 146 = .ok (.lstore 4, 2) := by decide +kernel
theorem dX6_controls_148 : decode cX6_controls 148 = .ok (.aload_n 0, 1) := by decide +kernel
theorem dX6_controls_149 : decode cX6_controls 149 = .ok (.getfield 37, 3) := by decide +kernel
theorem dX6_controls_152 : decode cX6_controls 152 = .ok (.iload_n 2, 1) := by decide +kernel
theorem dX6_controls_153 : decode cX6_controls 153 = .ok (.iload_n 3, 1) := by decide +kernel
theorem dX6_controls_154 : decode cX6_controls 154 = .ok (.ifCond .le 7, 3) := by decide +kernel
theorem dX6_controls_157 : decode cX6_controls 157 = .ok (.iconst 1, 1) := by decide +kernel
theorem dX6_controls_158 : decode cX6_controls 158 = .ok (.goto 4, 3) := by decide +kernel
theorem dX6_controls_161 : decode cX6_controls 161 = .ok (.iconst 0, 1) := by decide +kernel
theorem dX6_controls_162 : decode cX6_controls 162 = .ok (.bastore, 1) := by decide +kernel
theorem dX6_controls_163 : decode cX6_controls 163 = .ok (.aload_n 0, 1) := by decide +kernel
theorem dX6_controls_164 : decode cX6_controls 164 = .ok (.getfield 41, 3) := by decide +kernel
theorem dX6_controls_167 : decode cX6_controls 167 = .ok (.iload_n 2, 1) := by decide +kernel
theorem dX6_controls_168 : decode cX6_controls 168 = .ok (.lload 4, 2) := by decide +kernel
theorem dX6_controls_170 : decode cX6_controls 170 = .ok (.lastore, 1) := by decide +kernel
theorem dX6_controls_171 : decode cX6_controls 171 = .ok (.aload_n 0, 1) := by decide +kernel
theorem dX6_controls_172 : decode cX6_controls 172 = .ok (.bipush 111, 2) := by decide +kernel
theorem dX6_controls_174 : decode cX6_controls 174 = .ok (.aload_n 0, 1) := by decide +kernel
theorem dX6_controls_175 : decode cX6_controls 175 = .ok (.getfield 74, 3) := by decide +kernel
theorem dX6_controls_178 : decode cX6_controls 178 = .ok (.iconst 1, 1) := by decide +kernel
theorem dX6_controls_179 : decode cX6_controls 179 = .ok (.iaload, 1) := by decide +kernel
theorem dX6_controls_180 : decode cX6_controls 180 = .ok (.aload_n 0, 1) := by decide +kernel
theorem dX6_controls_181 : decode cX6_controls 181 = .ok (.getfield 74, 3) := by decide +kernel
theorem dX6_controls_184 : decode cX6_controls 184 = .ok (.iconst 2, 1) := by decide +kernel
theorem dX6_controls_185 : decode cX6_controls 185 = .ok (.iaload, 1) := by decide +kernel
theorem dX6_controls_186 : decode cX6_controls 186 = .ok (.invokevirtual 176, 3) := by decide +kernel
theorem dX6_controls_189 : decode cX6_controls 189 = .ok (.aload_n 0, 1) := by decide +kernel
theorem dX6_controls_190 : decode cX6_controls 190 = .ok (.iload_n 3, 1) := by decide +kernel
theorem dX6_controls_191 : decode cX6_controls 191 = .ok (.invokevirtual 131, 3) := by decide +kernel
theorem dX6_controls_194 : decode cX6_controls 194 = .ok (.iconst 0, 1) := by decide +kernel
theorem dX6_controls_195 : decode cX6_controls 195 = .ok (.ireturn, 1) := by decide +kernel
theorem dX6_runs_0 : decode cX6_runs 0 = .ok (.aload_n 0, 1) := by decide +kernel
theorem dX6_runs_1 : decode cX6_runs 1 = .ok (.getfield 7, 3) := by decide +kernel
theorem dX6_runs_4 : decode cX6_runs 4 = .ok (.iconst 1, 1) := by decide +kernel
theorem dX6_runs_5 : decode cX6_runs 5 = .ok (.if_icmp .ne 6, 3) := by decide +kernel
theorem dX6_runs_8 : decode cX6_runs 8 = .ok (.bipush 127, 2) := by decide +kernel
theorem dX6_runs_10 : decode cX6_runs 10 = .ok (.ireturn, 1) := by decide +kernel
theorem dX6_runs_11 : decode cX6_runs 11 = .ok (.iload_n 1, 1) := by decide +kernel
theorem dX6_runs_12 : decode cX6_runs 12 = .ok (.iconst 3, 1) := by decide +kernel
theorem dX6_runs_13 : decode cX6_runs 13 = .ok (.if_icmp .eq 6, 3) := by decide +kernel
theorem dX6_runs_16 : decode cX6_runs 16 = .ok (.bipush 19, 2) := by decide +kernel
theorem dX6_runs_18 : decode cX6_runs 18 = .ok (.ireturn, 1) := by decide +kernel
theorem dX6_runs_19 : decode cX6_runs 19 = .ok (.iload_n 2, 1) := by decide +kernel
theorem dX6_runs_20 : decode cX6_runs 20 = .ok (.i2l, 1) := by decide +kernel
theorem dX6_runs_21 : decode cX6_runs 21 = .ok (.lconst 1, 1) := by decide +kernel
theorem dX6_runs_22 : decode cX6_runs 22 = .ok (.ldc2_w 97, 3) := by decide +kernel
theorem dX6_runs_25 : decode cX6_runs 25 = .ok (.invokestatic 91, 3) := by decide +kernel
theorem dX6_runs_28 : decode cX6_runs 28 = .ok (.ifCond .ne 6, 3) := by decide +kernel
theorem dX6_runs_31 : decode cX6_runs 31 = .ok (.bipush 18, 2) := by decide +kernel
theorem dX6_runs_33 : decode cX6_runs 33 = .ok (.ireturn, 1) := by decide +kernel
theorem dX6_runs_34 : decode cX6_runs 34 = .ok (.iconst (-1), 1) := by decide +kernel
theorem dX6_runs_35 : decode cX6_runs 35 = .ok (.istore_n 3, 1) := by decide +kernel
theorem dX6_runs_36 : decode cX6_runs 36 = .ok (.iconst 0, 1) := by decide +kernel
theorem dX6_runs_37 : decode cX6_runs 37 = .ok (.istore 4, 2) := by decide +kernel
theorem dX6_runs_39 : decode cX6_runs 39 = .ok (.iload 4, 2) := by decide +kernel
theorem dX6_runs_41 : decode cX6_runs 41 = .ok (.aload_n 0, 1) := by decide +kernel
theorem dX6_runs_42 : decode cX6_runs 42 = .ok (.getfield 109, 3) := by decide +kernel
theorem dX6_runs_45 : decode cX6_runs 45 = .ok (.if_icmp .ge 31, 3) := by decide +kernel
theorem dX6_runs_48 : decode cX6_runs 48 = .ok (.aload_n 0, 1) := by decide +kernel
theorem dX6_runs_49 : decode cX6_runs 49 = .ok (.getfield 56, 3) := by decide +kernel
theorem dX6_runs_52 : decode cX6_runs 52 = .ok (.iload 4, 2) := by decide +kernel
theorem dX6_runs_54 : decode cX6_runs 54 = .ok (.iaload, 1) := by decide +kernel
theorem dX6_runs_55 : decode cX6_runs 55 = .ok (.aload_n 0, 1) := by decide +kernel
theorem dX6_runs_56 : decode cX6_runs 56 = .ok (.iconst 2, 1) := by decide +kernel
theorem dX6_runs_57 : decode cX6_runs 57 = .ok (.invokevirtual 156, 3) := by decide +kernel
theorem dX6_runs_60 : decode cX6_runs 60 = .ok (.if_icmp .ne 8, 3) := by decide +kernel
theorem dX6_runs_63 : decode cX6_runs 63 = .ok (.iload 4, 2) := by decide +kernel
theorem dX6_runs_65 : decode cX6_runs 65 = .ok (.goto 4, 3) := by decide +kernel
theorem dX6_runs_68 : decode cX6_runs 68 = .ok (.iload_n 3, 1) := by decide +kernel
theorem dX6_runs_69 : decode cX6_runs 69 = .ok (.istore_n 3, 1) := by decide +kernel
theorem dX6_runs_70 : decode cX6_runs 70 = .ok (.iinc 4 1, 3) := by decide +kernel
theorem dX6_runs_73 : decode cX6_runs 73 = .ok (.goto (-34), 3) := by decide +kernel
theorem dX6_runs_76 : decode cX6_runs 76 = .ok (.iload_n 3, 1) := by decide +kernel
theorem dX6_runs_77 : decode cX6_runs 77 = .ok (.ifCond .ge 6, 3) := by decide +kernel
theorem dX6_runs_80 : decode cX6_runs 80 = .ok (.bipush 49, 2) := by decide +kernel
theorem dX6_runs_82 : decode cX6_runs 82 = .ok (.ireturn, 1) := by decide +kernel
theorem dX6_runs_83 : decode cX6_runs 83 = .ok (.iload_n 2, 1) := by decide +kernel
theorem dX6_runs_84 : decode cX6_runs 84 = .ok (.iconst 1, 1) := by decide +kernel
theorem dX6_runs_85 : decode cX6_runs 85 = .ok (.if_icmp .ne 54, 3) := by decide +kernel
theorem dX6_runs_88 : decode cX6_runs 88 = .ok (.aload_n 0, 1) := by decide +kernel
theorem dX6_runs_89 : decode cX6_runs 89 = .ok (.getfield 65, 3) := by decide +kernel
theorem dX6_runs_92 : decode cX6_runs 92 = .ok (.iload_n 3, 1) := by decide +kernel
theorem dX6_runs_93 : decode cX6_runs 93 = .ok (.iaload, 1) := by decide +kernel
theorem dX6_runs_94 : decode cX6_runs 94 = .ok (.ifCond .le 6, 3) := by decide +kernel
theorem dX6_runs_97 : decode cX6_runs 97 = .ok (.bipush 36, 2) := by decide +kernel
theorem dX6_runs_99 : decode cX6_runs 99 = .ok (.ireturn, 1) := by decide +kernel
theorem dX6_runs_100 : decode cX6_runs 100 = .ok (.aload_n 0, 1) := by decide +kernel
theorem dX6_runs_101 : decode cX6_runs 101 = .ok (.getfield 13, 3) := by decide +kernel
theorem dX6_runs_104 : decode cX6_runs 104 = .ok (.ifCond .ne 6, 3) := by decide +kernel
theorem dX6_runs_107 : decode cX6_runs 107 = .ok (.bipush 34, 2) := by decide +kernel
theorem dX6_runs_109 : decode cX6_runs 109 = .ok (.ireturn, 1) := by decide +kernel
theorem dX6_runs_110 : decode cX6_runs 110 = .ok (.aload_n 0, 1) := by decide +kernel
theorem dX6_runs_111 : decode cX6_runs 111 = .ok (.getfield 62, 3) := by decide +kernel
theorem dX6_runs_114 : decode cX6_runs 114 = .ok (.iload_n 3, 1) := by decide +kernel
theorem dX6_runs_115 : decode cX6_runs 115 = .ok (.iconst 1, 1) := by decide +kernel
theorem dX6_runs_116 : decode cX6_runs 116 = .ok (.bastore, 1) := by decide +kernel
theorem dX6_runs_117 : decode cX6_runs 117 = .ok (.aload_n 0, 1) := by decide +kernel
theorem dX6_runs_118 : decode cX6_runs 118 = .ok (.getfield 65, 3) := by decide +kernel
theorem dX6_runs_121 : decode cX6_runs 121 = .ok (.iload_n 3, 1) := by decide +kernel
theorem dX6_runs_122 : decode cX6_runs 122 = .ok (.aload_n 0, 1) := by decide +kernel
theorem dX6_runs_123 : decode cX6_runs 123 = .ok (.getfield 59, 3) := by decide +kernel
theorem dX6_runs_126 : decode cX6_runs 126 = .ok (.iload_n 3, 1) := by decide +kernel
theorem dX6_runs_127 : decode cX6_runs 127 = .ok (.iaload, 1) := by decide +kernel
theorem dX6_runs_128 : decode cX6_runs 128 = .ok (.iastore, 1) := by decide +kernel
theorem dX6_runs_129 : decode cX6_runs 129 = .ok (.aload_n 0, 1) := by decide +kernel
theorem dX6_runs_130 : decode cX6_runs 130 = .ok (.getfield 68, 3) := by decide +kernel
theorem dX6_runs_133 : decode cX6_runs 133 = .ok (.iload_n 3, 1) := by decide +kernel
theorem dX6_runs_134 : decode cX6_runs 134 = .ok (.iconst 0, 1) := by decide +kernel
theorem dX6_runs_135 : decode cX6_runs 135 = .ok (.iastore, 1) := by decide +kernel
theorem dX6_runs_136 : decode cX6_runs 136 = .ok (.goto 65, 3) := by decide +kernel
theorem dX6_runs_139 : decode cX6_runs 139 = .ok (.aload_n 0, 1) := by decide +kernel
theorem dX6_runs_140 : decode cX6_runs 140 = .ok (.getfield 62, 3) := by decide +kernel
theorem dX6_runs_143 : decode cX6_runs 143 = .ok (.iload_n 3, 1) := by decide +kernel
theorem dX6_runs_144 : decode cX6_runs 144 = .ok (.baload, 1) := by decide +kernel
theorem dX6_runs_145 : decode cX6_runs 145 = .ok (.ifCond .ne 6, 3) := by decide +kernel
theorem dX6_runs_148 : decode cX6_runs 148 = .ok (.bipush 36, 2) := by decide +kernel
theorem dX6_runs_150 : decode cX6_runs 150 = .ok (.ireturn, 1) := by decide +kernel
theorem dX6_runs_151 : decode cX6_runs 151 = .ok (.iload_n 2, 1) := by decide +kernel
theorem dX6_runs_152 : decode cX6_runs 152 = .ok (.iconst 2, 1) := by decide +kernel
theorem dX6_runs_153 : decode cX6_runs 153 = .ok (.if_icmp .ne 10, 3) := by decide +kernel
theorem dX6_runs_156 : decode cX6_runs 156 = .ok (.aload_n 0, 1) := by decide +kernel
theorem dX6_runs_157 : decode cX6_runs 157 = .ok (.getfield 65, 3) := by decide +kernel
theorem dX6_runs_160 : decode cX6_runs 160 = .ok (.iload_n 3, 1) := by decide +kernel
theorem dX6_runs_161 : decode cX6_runs 161 = .ok (.iconst 0, 1) := by decide +kernel
theorem dX6_runs_162 : decode cX6_runs 162 = .ok (.iastore, 1) := by decide +kernel
theorem dX6_runs_163 : decode cX6_runs 163 = .ok (.aload_n 0, 1) := by decide +kernel
theorem dX6_runs_164 : decode cX6_runs 164 = .ok (.getfield 65, 3) := by decide +kernel
theorem dX6_runs_167 : decode cX6_runs 167 = .ok (.iload_n 3, 1) := by decide +kernel
theorem dX6_runs_168 : decode cX6_runs 168 = .ok (.iaload, 1) := by decide +kernel
theorem dX6_runs_169 : decode cX6_runs 169 = .ok (.ifCond .le 32, 3) := by decide +kernel
theorem dX6_runs_172 : decode cX6_runs 172 = .ok (.aload_n 0, 1) := by decide +kernel
theorem dX6_runs_173 : decode cX6_runs 173 = .ok (.getfield 68, 3) := by decide +kernel
theorem dX6_runs_176 : decode cX6_runs 176 = .ok (.iload_n 3, 1) := by decide +kernel
theorem dX6_runs_177 : decode cX6_runs 177 = .ok (.iaload, 1) := by decide +kernel
theorem dX6_runs_178 : decode cX6_runs 178 = .ok (.aload_n 0, 1) := by decide +kernel
theorem dX6_runs_179 : decode cX6_runs 179 = .ok (.getfield 117, 3) := by decide +kernel
theorem dX6_runs_182 : decode cX6_runs 182 = .ok (.if_icmp .lt 6, 3) := by decide +kernel
theorem dX6_runs_185 : decode cX6_runs 185 = .ok (.bipush 16, 2) := by decide +kernel
theorem dX6_runs_187 : decode cX6_runs 187 = .ok (.ireturn, 1) := by decide +kernel
theorem dX6_runs_188 : decode cX6_runs 188 = .ok (.aload_n 0, 1) := by decide +kernel
theorem dX6_runs_189 : decode cX6_runs 189 = .ok (.getfield 68, 3) := by decide +kernel
theorem dX6_runs_192 : decode cX6_runs 192 = .ok (.iload_n 3, 1) := by decide +kernel
theorem dX6_runs_193 : decode cX6_runs 193 = .ok (.dup2, 1) := by decide +kernel
theorem dX6_runs_194 : decode cX6_runs 194 = .ok (.iaload, 1) := by decide +kernel
theorem dX6_runs_195 : decode cX6_runs 195 = .ok (.iconst 1, 1) := by decide +kernel
theorem dX6_runs_196 : decode cX6_runs 196 = .ok (.iadd, 1) := by decide +kernel
theorem dX6_runs_197 : decode cX6_runs 197 = .ok (.iastore, 1) := by decide +kernel
theorem dX6_runs_198 : decode cX6_runs 198 = .ok (.bipush 120, 2) := by decide +kernel
theorem dX6_runs_200 : decode cX6_runs 200 = .ok (.ireturn, 1) := by decide +kernel
theorem dX6_runs_201 : decode cX6_runs 201 = .ok (.aload_n 0, 1) := by decide +kernel
theorem dX6_runs_202 : decode cX6_runs 202 = .ok (.bipush 113, 2) := by decide +kernel
theorem dX6_runs_204 : decode cX6_runs 204 = .ok (.invokevirtual 131, 3) := by decide +kernel
theorem dX6_runs_207 : decode cX6_runs 207 = .ok (.aload_n 0, 1) := by decide +kernel
theorem dX6_runs_208 : decode cX6_runs 208 = .ok (.iload_n 2, 1) := by decide +kernel
theorem dX6_runs_209 : decode cX6_runs 209 = .ok (.invokevirtual 131, 3) := by decide +kernel
theorem dX6_runs_212 : decode cX6_runs 212 = .ok (.aload_n 0, 1) := by decide +kernel
theorem dX6_runs_213 : decode cX6_runs 213 = .ok (.aload_n 0, 1) := by decide +kernel
theorem dX6_runs_214 : decode cX6_runs 214 = .ok (.getfield 74, 3) := by decide +kernel
theorem dX6_runs_217 : decode cX6_runs 217 = .ok (.iconst 2, 1) := by decide +kernel
theorem dX6_runs_218 : decode cX6_runs 218 = .ok (.iaload, 1) := by decide +kernel
theorem dX6_runs_219 : decode cX6_runs 219 = .ok (.invokevirtual 131, 3) := by decide +kernel
theorem dX6_runs_222 : decode cX6_runs 222 = .ok (.aload_n 0, 1) := by decide +kernel
theorem dX6_runs_223 : decode cX6_runs 223 = .ok (.aload_n 0, 1) := by decide +kernel
theorem dX6_runs_224 : decode cX6_runs 224 = .ok (.getfield 74, 3) := by decide +kernel
theorem dX6_runs_227 : decode cX6_runs 227 = .ok (.iconst 3, 1) := by decide +kernel
theorem dX6_runs_228 : decode cX6_runs 228 = .ok (.iaload, 1) := by decide +kernel
theorem dX6_runs_229 : decode cX6_runs 229 = .ok (.invokevirtual 131, 3) := by decide +kernel
theorem dX6_runs_232 : decode cX6_runs 232 = .ok (.aload_n 0, 1) := by decide +kernel
theorem dX6_runs_233 : decode cX6_runs 233 = .ok (.aload_n 0, 1) := by decide +kernel
theorem dX6_runs_234 : decode cX6_runs 234 = .ok (.getfield 65, 3) := by decide +kernel
theorem dX6_runs_237 : decode cX6_runs 237 = .ok (.iload_n 3, 1) := by decide +kernel
theorem dX6_runs_238 : decode cX6_runs 238 = .ok (.iaload, 1) := by decide +kernel
theorem dX6_runs_239 : decode cX6_runs 239 = .ok (.invokevirtual 131, 3) := by decide +kernel
theorem dX6_runs_242 : decode cX6_runs 242 = .ok (.iconst 0, 1) := by decide +kernel
theorem dX6_runs_243 : decode cX6_runs 243 = .ok (.ireturn, 1) := by decide +kernel
theorem dX6_takes_0 : decode cX6_takes 0 = .ok (.aload_n 0, 1) := by decide +kernel
theorem dX6_takes_1 : decode cX6_takes 1 = .ok (.getfield 7, 3) := by decide +kernel
theorem dX6_takes_4 : decode cX6_takes 4 = .ok (.iconst 3, 1) := by decide +kernel
theorem dX6_takes_5 : decode cX6_takes 5 = .ok (.if_icmp .eq 6, 3) := by decide +kernel
theorem dX6_takes_8 : decode cX6_takes 8 = .ok (.bipush 127, 2) := by decide +kernel
theorem dX6_takes_10 : decode cX6_takes 10 = .ok (.ireturn, 1) := by decide +kernel
theorem dX6_takes_11 : decode cX6_takes 11 = .ok (.iload_n 1, 1) := by decide +kernel
theorem dX6_takes_12 : decode cX6_takes 12 = .ok (.iconst 2, 1) := by decide +kernel
theorem dX6_takes_13 : decode cX6_takes 13 = .ok (.if_icmp .lt 9, 3) := by decide +kernel
theorem dX6_takes_16 : decode cX6_takes 16 = .ok (.iload_n 1, 1) := by decide +kernel
theorem dX6_takes_17 : decode cX6_takes 17 = .ok (.bipush 9, 2) := by decide +kernel
theorem dX6_takes_19 : decode cX6_takes 19 = .ok (.if_icmp .le 6, 3) := by decide +kernel
theorem dX6_takes_22 : decode cX6_takes 22 = .ok (.bipush 19, 2) := by decide +kernel
theorem dX6_takes_24 : decode cX6_takes 24 = .ok (.ireturn, 1) := by decide +kernel
theorem dX6_takes_25 : decode cX6_takes 25 = .ok (.aload_n 0, 1) := by decide +kernel
theorem dX6_takes_26 : decode cX6_takes 26 = .ok (.getfield 135, 3) := by decide +kernel
theorem dX6_takes_29 : decode cX6_takes 29 = .ok (.ifCond .ne 6, 3) := by decide +kernel
theorem dX6_takes_32 : decode cX6_takes 32 = .ok (.bipush 36, 2) := by decide +kernel
theorem dX6_takes_34 : decode cX6_takes 34 = .ok (.ireturn, 1) := by decide +kernel
theorem dX6_takes_35 : decode cX6_takes 35 = .ok (.aload_n 0, 1) := by decide +kernel
theorem dX6_takes_36 : decode cX6_takes 36 = .ok (.getfield 74, 3) := by decide +kernel
theorem dX6_takes_39 : decode cX6_takes 39 = .ok (.iconst 1, 1) := by decide +kernel
theorem dX6_takes_40 : decode cX6_takes 40 = .ok (.iaload, 1) := by decide +kernel
theorem dX6_takes_41 : decode cX6_takes 41 = .ok (.istore_n 2, 1) := by decide +kernel
theorem dX6_takes_42 : decode cX6_takes 42 = .ok (.aload_n 0, 1) := by decide +kernel
theorem dX6_takes_43 : decode cX6_takes 43 = .ok (.getfield 170, 3) := by decide +kernel
theorem dX6_takes_46 : decode cX6_takes 46 = .ok (.ifCond .eq 11, 3) := by decide +kernel
theorem dX6_takes_49 : decode cX6_takes 49 = .ok (.iload_n 2, 1) := by decide +kernel
theorem dX6_takes_50 : decode cX6_takes 50 = .ok (.aload_n 0, 1) := by decide +kernel
theorem dX6_takes_51 : decode cX6_takes 51 = .ok (.getfield 188, 3) := by decide +kernel
theorem dX6_takes_54 : decode cX6_takes 54 = .ok (.if_icmp .eq 105, 3) := by decide +kernel
theorem dX6_takes_57 : decode cX6_takes 57 = .ok (.iload_n 2, 1) := by decide +kernel
theorem dX6_takes_58 : decode cX6_takes 58 = .ok (.aload_n 0, 1) := by decide +kernel
theorem dX6_takes_59 : decode cX6_takes 59 = .ok (.getfield 170, 3) := by decide +kernel
theorem dX6_takes_62 : decode cX6_takes 62 = .ok (.ifCond .eq 16, 3) := by decide +kernel
theorem dX6_takes_65 : decode cX6_takes 65 = .ok (.aload_n 0, 1) := by decide +kernel
theorem dX6_takes_66 : decode cX6_takes 66 = .ok (.getfield 188, 3) := by decide +kernel
theorem dX6_takes_69 : decode cX6_takes 69 = .ok (.iconst 1, 1) := by decide +kernel
theorem dX6_takes_70 : decode cX6_takes 70 = .ok (.iadd, 1) := by decide +kernel
theorem dX6_takes_71 : decode cX6_takes 71 = .ok (.sipush 256, 3) := by decide +kernel
theorem dX6_takes_74 : decode cX6_takes 74 = .ok (.irem, 1) := by decide +kernel
theorem dX6_takes_75 : decode cX6_takes 75 = .ok (.goto 4, 3) := by decide +kernel
theorem dX6_takes_78 : decode cX6_takes 78 = .ok (.iconst 1, 1) := by decide +kernel
theorem dX6_takes_79 : decode cX6_takes 79 = .ok (.if_icmp .eq 6, 3) := by decide +kernel
theorem dX6_takes_82 : decode cX6_takes 82 = .ok (.bipush 115, 2) := by decide +kernel
theorem dX6_takes_84 : decode cX6_takes 84 = .ok (.ireturn, 1) := by decide +kernel
theorem dX6_takes_85 : decode cX6_takes 85 = .ok (.iload_n 1, 1) := by decide +kernel
theorem dX6_takes_86 : decode cX6_takes 86 = .ok (.iconst 1, 1) := by decide +kernel
theorem dX6_takes_87 : decode cX6_takes 87 = .ok (.isub, 1) := by decide +kernel
theorem dX6_takes_88 : decode cX6_takes 88 = .ok (.aload_n 0, 1) := by decide +kernel
theorem dX6_takes_89 : decode cX6_takes 89 = .ok (.getfield 161, 3) := by decide +kernel
theorem dX6_takes_92 : decode cX6_takes 92 = .ok (.aload_n 0, 1) := by decide +kernel
theorem dX6_takes_93 : decode cX6_takes 93 = .ok (.getfield 164, 3) := by decide +kernel
theorem dX6_takes_96 : decode cX6_takes 96 = .ok (.isub, 1) := by decide +kernel
theorem dX6_takes_97 : decode cX6_takes 97 = .ok (.if_icmp .le 6, 3) := by decide +kernel
theorem dX6_takes_100 : decode cX6_takes 100 = .ok (.bipush 113, 2) := by decide +kernel
theorem dX6_takes_102 : decode cX6_takes 102 = .ok (.ireturn, 1) := by decide +kernel
theorem dX6_takes_103 : decode cX6_takes 103 = .ok (.iconst 2, 1) := by decide +kernel
theorem dX6_takes_104 : decode cX6_takes 104 = .ok (.istore_n 3, 1) := by decide +kernel
theorem dX6_takes_105 : decode cX6_takes 105 = .ok (.iload_n 3, 1) := by decide +kernel
theorem dX6_takes_106 : decode cX6_takes 106 = .ok (.aload_n 0, 1) := by decide +kernel
theorem dX6_takes_107 : decode cX6_takes 107 = .ok (.getfield 138, 3) := by decide +kernel
theorem dX6_takes_110 : decode cX6_takes 110 = .ok (.if_icmp .ge 27, 3) := by decide +kernel
theorem dX6_takes_113 : decode cX6_takes 113 = .ok (.aload_n 0, 1) := by decide +kernel
theorem dX6_takes_114 : decode cX6_takes 114 = .ok (.aload_n 0, 1) := by decide +kernel
theorem dX6_takes_115 : decode cX6_takes 115 = .ok (.getfield 167, 3) := by decide +kernel
theorem dX6_takes_118 : decode cX6_takes 118 = .ok (.aload_n 0, 1) := by decide +kernel
theorem dX6_takes_119 : decode cX6_takes 119 = .ok (.getfield 74, 3) := by decide +kernel
theorem dX6_takes_122 : decode cX6_takes 122 = .ok (.iload_n 3, 1) := by decide +kernel
theorem dX6_takes_123 : decode cX6_takes 123 = .ok (.iaload, 1) := by decide +kernel
theorem dX6_takes_124 : decode cX6_takes 124 = .ok (.iadd, 1) := by decide +kernel
theorem dX6_takes_125 : decode cX6_takes 125 = .ok (.ldc 191, 2) := by decide +kernel
theorem dX6_takes_127 : decode cX6_takes 127 = .ok (.irem, 1) := by decide +kernel
theorem dX6_takes_128 : decode cX6_takes 128 = .ok (.putfield 167, 3) := by decide +kernel
theorem dX6_takes_131 : decode cX6_takes 131 = .ok (.iinc 3 1, 3) := by decide +kernel
theorem dX6_takes_134 : decode cX6_takes 134 = .ok (.goto (-29), 3) := by decide +kernel
theorem dX6_takes_137 : decode cX6_takes 137 = .ok (.aload_n 0, 1) := by decide +kernel
theorem dX6_takes_138 : decode cX6_takes 138 = .ok (.dup, 1) := by decide +kernel
theorem dX6_takes_139 : decode cX6_takes 139 = .ok (.getfield 164, 3) := by decide +kernel
theorem dX6_takes_142 : decode cX6_takes 142 = .ok (.iload_n 1, 1) := by decide +kernel
theorem dX6_takes_143 : decode cX6_takes 143 = .ok (.iconst 1, 1) := by decide +kernel
theorem dX6_takes_144 : decode cX6_takes 144 = .ok (.isub, 1) := by decide +kernel
theorem dX6_takes_145 : decode cX6_takes 145 = .ok (.iadd, 1) := by decide +kernel
theorem dX6_takes_146 : decode cX6_takes 146 = .ok (.putfield 164, 3) := by decide +kernel
theorem dX6_takes_149 : decode cX6_takes 149 = .ok (.aload_n 0, 1) := by decide +kernel
theorem dX6_takes_150 : decode cX6_takes 150 = .ok (.iload_n 2, 1) := by decide +kernel
theorem dX6_takes_151 : decode cX6_takes 151 = .ok (.putfield 188, 3) := by decide +kernel
theorem dX6_takes_154 : decode cX6_takes 154 = .ok (.aload_n 0, 1) := by decide +kernel
theorem dX6_takes_155 : decode cX6_takes 155 = .ok (.iconst 1, 1) := by decide +kernel
theorem dX6_takes_156 : decode cX6_takes 156 = .ok (.putfield 170, 3) := by decide +kernel
theorem dX6_takes_159 : decode cX6_takes 159 = .ok (.aload_n 0, 1) := by decide +kernel
theorem dX6_takes_160 : decode cX6_takes 160 = .ok (.bipush 118, 2) := by decide +kernel
theorem dX6_takes_162 : decode cX6_takes 162 = .ok (.invokevirtual 131, 3) := by decide +kernel
theorem dX6_takes_165 : decode cX6_takes 165 = .ok (.aload_n 0, 1) := by decide +kernel
theorem dX6_takes_166 : decode cX6_takes 166 = .ok (.iload_n 2, 1) := by decide +kernel
theorem dX6_takes_167 : decode cX6_takes 167 = .ok (.invokevirtual 131, 3) := by decide +kernel
theorem dX6_takes_170 : decode cX6_takes 170 = .ok (.iconst 0, 1) := by decide +kernel
theorem dX6_takes_171 : decode cX6_takes 171 = .ok (.ireturn, 1) := by decide +kernel
theorem dX6_looked_0 : decode cX6_looked 0 = .ok (.aload_n 0, 1) := by decide +kernel
theorem dX6_looked_1 : decode cX6_looked 1 = .ok (.aload_n 0, 1) := by decide +kernel
theorem dX6_looked_2 : decode cX6_looked 2 = .ok (.getfield 192, 3) := by decide +kernel
theorem dX6_looked_5 : decode cX6_looked 5 = .ok (.putfield 196, 3) := by decide +kernel
theorem dX6_looked_8 : decode cX6_looked 8 = .ok (.aload_n 0, 1) := by decide +kernel
theorem dX6_looked_9 : decode cX6_looked 9 = .ok (.iconst 0, 1) := by decide +kernel
theorem dX6_looked_10 : decode cX6_looked 10 = .ok (.putfield 128, 3) := by decide +kernel
theorem dX6_looked_13 : decode cX6_looked 13 = .ok (.aload_n 0, 1) := by decide +kernel
theorem dX6_looked_14 : decode cX6_looked 14 = .ok (.getfield 138, 3) := by decide +kernel
theorem dX6_looked_17 : decode cX6_looked 17 = .ok (.ifCond .ne 7, 3) := by decide +kernel
theorem dX6_looked_20 : decode cX6_looked 20 = .ok (.iconst 0, 1) := by decide +kernel
theorem dX6_looked_21 : decode cX6_looked 21 = .ok (.goto 9, 3) := by decide +kernel
theorem dX6_looked_24 : decode cX6_looked 24 = .ok (.aload_n 0, 1) := by decide +kernel
theorem dX6_looked_25 : decode cX6_looked 25 = .ok (.getfield 74, 3) := by decide +kernel
theorem dX6_looked_28 : decode cX6_looked 28 = .ok (.iconst 0, 1) := by decide +kernel
theorem dX6_looked_29 : decode cX6_looked 29 = .ok (.iaload, 1) := by decide +kernel
theorem dX6_looked_30 : decode cX6_looked 30 = .ok (.istore_n 1, 1) := by decide +kernel
theorem dX6_looked_31 : decode cX6_looked 31 = .ok (.aload_n 0, 1) := by decide +kernel
theorem dX6_looked_32 : decode cX6_looked 32 = .ok (.getfield 138, 3) := by decide +kernel
theorem dX6_looked_35 : decode cX6_looked 35 = .ok (.ifCond .ne 8, 3) := by decide +kernel
theorem dX6_looked_38 : decode cX6_looked 38 = .ok (.bipush 19, 2) := by decide +kernel
theorem dX6_looked_40 : decode cX6_looked 40 = .ok (.goto 7, 3) := by decide +kernel
theorem dX6_looked_43 : decode cX6_looked 43 = .ok (.aload_n 0, 1) := by decide +kernel
theorem dX6_looked_44 : decode cX6_looked 44 = .ok (.invokevirtual 199, 3) := by decide +kernel
theorem dX6_looked_47 : decode cX6_looked 47 = .ok (.istore_n 2, 1) := by decide +kernel
theorem dX6_looked_48 : decode cX6_looked 48 = .ok (.aload_n 0, 1) := by decide +kernel
theorem dX6_looked_49 : decode cX6_looked 49 = .ok (.iload_n 2, 1) := by decide +kernel
theorem dX6_looked_50 : decode cX6_looked 50 = .ok (.putfield 80, 3) := by decide +kernel
theorem dX6_looked_53 : decode cX6_looked 53 = .ok (.iload_n 2, 1) := by decide +kernel
theorem dX6_looked_54 : decode cX6_looked 54 = .ok (.ifCond .le 60, 3) := by decide +kernel
theorem dX6_looked_57 : decode cX6_looked 57 = .ok (.aload_n 0, 1) := by decide +kernel
theorem dX6_looked_58 : decode cX6_looked 58 = .ok (.iconst 0, 1) := by decide +kernel
theorem dX6_looked_59 : decode cX6_looked 59 = .ok (.putfield 128, 3) := by decide +kernel
theorem dX6_looked_62 : decode cX6_looked 62 = .ok (.aload_n 0, 1) := by decide +kernel
theorem dX6_looked_63 : decode cX6_looked 63 = .ok (.getfield 203, 3) := by decide +kernel
theorem dX6_looked_66 : decode cX6_looked 66 = .ok (.ifCond .eq 31, 3) := by decide +kernel
theorem dX6_looked_69 : decode cX6_looked 69 = .ok (.iload_n 2, 1) := by decide +kernel
theorem dX6_looked_70 : decode cX6_looked 70 = .ok (.bipush 17, 2) := by decide +kernel
theorem dX6_looked_72 : decode cX6_looked 72 = .ok (.if_icmp .eq 21, 3) := by decide +kernel
theorem dX6_looked_75 : decode cX6_looked 75 = .ok (.iload_n 2, 1) := by decide +kernel
theorem dX6_looked_76 : decode cX6_looked 76 = .ok (.bipush 18, 2) := by decide +kernel
theorem dX6_looked_78 : decode cX6_looked 78 = .ok (.if_icmp .eq 15, 3) := by decide +kernel
theorem dX6_looked_81 : decode cX6_looked 81 = .ok (.iload_n 2, 1) := by decide +kernel
theorem dX6_looked_82 : decode cX6_looked 82 = .ok (.bipush 49, 2) := by decide +kernel
theorem dX6_looked_84 : decode cX6_looked 84 = .ok (.if_icmp .eq 9, 3) := by decide +kernel
theorem dX6_looked_87 : decode cX6_looked 87 = .ok (.iload_n 2, 1) := by decide +kernel
theorem dX6_looked_88 : decode cX6_looked 88 = .ok (.bipush 127, 2) := by decide +kernel
theorem dX6_looked_90 : decode cX6_looked 90 = .ok (.if_icmp .ne 7, 3) := by decide +kernel
theorem dX6_looked_93 : decode cX6_looked 93 = .ok (.iconst 1, 1) := by decide +kernel
theorem dX6_looked_94 : decode cX6_looked 94 = .ok (.goto 4, 3) := by decide +kernel
theorem dX6_looked_97 : decode cX6_looked 97 = .ok (.iconst 0, 1) := by decide +kernel
theorem dX6_looked_98 : decode cX6_looked 98 = .ok (.istore_n 3, 1) := by decide +kernel
theorem dX6_looked_99 : decode cX6_looked 99 = .ok (.iload_n 3, 1) := by decide +kernel
theorem dX6_looked_100 : decode cX6_looked 100 = .ok (.ifCond .ne 11, 3) := by decide +kernel
theorem dX6_looked_103 : decode cX6_looked 103 = .ok (.aload_n 0, 1) := by decide +kernel
theorem dX6_looked_104 : decode cX6_looked 104 = .ok (.bipush 127, 2) := by decide +kernel
theorem dX6_looked_106 : decode cX6_looked 106 = .ok (.iload_n 1, 1) := by decide +kernel
theorem dX6_looked_107 : decode cX6_looked 107 = .ok (.iload_n 2, 1) := by decide +kernel
theorem dX6_looked_108 : decode cX6_looked 108 = .ok (.invokevirtual 176, 3) := by decide +kernel
theorem dX6_looked_111 : decode cX6_looked 111 = .ok (.goto 51, 3) := by decide +kernel
theorem dX6_looked_114 : decode cX6_looked 114 = .ok (.aload_n 0, 1) := by decide +kernel
theorem dX6_looked_115 : decode cX6_looked 115 = .ok (.getfield 138, 3) := by decide +kernel
theorem dX6_looked_118 : decode cX6_looked 118 = .ok (.iconst 1, 1) := by decide +kernel
theorem dX6_looked_119 : decode cX6_looked 119 = .ok (.if_icmp .le 43, 3) := by decide +kernel
theorem dX6_looked_122 : decode cX6_looked 122 = .ok (.aload_n 0, 1) := by decide +kernel
theorem dX6_looked_123 : decode cX6_looked 123 = .ok (.getfield 74, 3) := by decide +kernel
theorem dX6_looked_126 : decode cX6_looked 126 = .ok (.iconst 1, 1) := by decide +kernel
theorem dX6_looked_127 : decode cX6_looked 127 = .ok (.iaload, 1) := by decide +kernel
theorem dX6_looked_128 : decode cX6_looked 128 = .ok (.bipush 127, 2) := by decide +kernel
theorem dX6_looked_130 : decode cX6_looked 130 = .ok (.if_icmp .le 32, 3) := by decide +kernel
theorem dX6_looked_133 : decode cX6_looked 133 = .ok (.iload_n 1, 1) := by decide +kernel
theorem dX6_looked_134 : decode cX6_looked 134 = .ok (.bipush 16, 2) := by decide +kernel
theorem dX6_looked_136 : decode cX6_looked 136 = .ok (.if_icmp .eq 21, 3) := by decide +kernel
theorem dX6_looked_139 : decode cX6_looked 139 = .ok (.iload_n 1, 1) := by decide +kernel
theorem dX6_looked_140 : decode cX6_looked 140 = .ok (.bipush 17, 2) := by decide +kernel
theorem dX6_looked_142 : decode cX6_looked 142 = .ok (.if_icmp .eq 15, 3) := by decide +kernel
theorem dX6_looked_145 : decode cX6_looked 145 = .ok (.iload_n 1, 1) := by decide +kernel
theorem dX6_looked_146 : decode cX6_looked 146 = .ok (.bipush 49, 2) := by decide +kernel
theorem dX6_looked_148 : decode cX6_looked 148 = .ok (.if_icmp .eq 9, 3) := by decide +kernel
theorem dX6_looked_151 : decode cX6_looked 151 = .ok (.iload_n 1, 1) := by decide +kernel
theorem dX6_looked_152 : decode cX6_looked 152 = .ok (.bipush 62, 2) := by decide +kernel
theorem dX6_looked_154 : decode cX6_looked 154 = .ok (.if_icmp .ne 8, 3) := by decide +kernel
theorem dX6_looked_157 : decode cX6_looked 157 = .ok (.aload_n 0, 1) := by decide +kernel
theorem dX6_looked_158 : decode cX6_looked 158 = .ok (.iconst 0, 1) := by decide +kernel
theorem dX6_looked_159 : decode cX6_looked 159 = .ok (.putfield 128, 3) := by decide +kernel
theorem dX6_looked_162 : decode cX6_looked 162 = .ok (.aload_n 0, 1) := by decide +kernel
theorem dX6_looked_163 : decode cX6_looked 163 = .ok (.getfield 128, 3) := by decide +kernel
theorem dX6_looked_166 : decode cX6_looked 166 = .ok (.ireturn, 1) := by decide +kernel
theorem dX6_ask_0 : decode cX6_ask 0 = .ok (.aload_n 0, 1) := by decide +kernel
theorem dX6_ask_1 : decode cX6_ask 1 = .ok (.iconst 0, 1) := by decide +kernel
theorem dX6_ask_2 : decode cX6_ask 2 = .ok (.putfield 83, 3) := by decide +kernel
theorem dX6_ask_5 : decode cX6_ask 5 = .ok (.iload_n 1, 1) := by decide +kernel
theorem dX6_ask_6 : decode cX6_ask 6 = .ok (.sipush 255, 3) := by decide +kernel
theorem dX6_ask_9 : decode cX6_ask 9 = .ok (.iand, 1) := by decide +kernel
theorem dX6_ask_10 : decode cX6_ask 10 = .ok (.istore_n 2, 1) := by decide +kernel
theorem dX6_ask_11 : decode cX6_ask 11 = .ok (.aload_n 0, 1) := by decide +kernel
theorem dX6_ask_12 : decode cX6_ask 12 = .ok (.getfield 206, 3) := by decide +kernel
theorem dX6_ask_15 : decode cX6_ask 15 = .ok (.ifCond .ne 72, 3) := by decide +kernel
theorem dX6_ask_18 : decode cX6_ask 18 = .ok (.aload_n 0, 1) := by decide +kernel
theorem dX6_ask_19 : decode cX6_ask 19 = .ok (.iload_n 2, 1) := by decide +kernel
theorem dX6_ask_20 : decode cX6_ask 20 = .ok (.bipush 127, 2) := by decide +kernel
theorem dX6_ask_22 : decode cX6_ask 22 = .ok (.iand, 1) := by decide +kernel
theorem dX6_ask_23 : decode cX6_ask 23 = .ok (.putfield 209, 3) := by decide +kernel
theorem dX6_ask_26 : decode cX6_ask 26 = .ok (.aload_n 0, 1) := by decide +kernel
theorem dX6_ask_27 : decode cX6_ask 27 = .ok (.aload_n 0, 1) := by decide +kernel
theorem dX6_ask_28 : decode cX6_ask 28 = .ok (.getfield 209, 3) := by decide +kernel
theorem dX6_ask_31 : decode cX6_ask 31 = .ok (.bipush 60, 2) := by decide +kernel
theorem dX6_ask_33 : decode cX6_ask 33 = .ok (.if_icmp .le 8, 3) := by decide +kernel
theorem dX6_ask_36 : decode cX6_ask 36 = .ok (.bipush 60, 2) := by decide +kernel
theorem dX6_ask_38 : decode cX6_ask 38 = .ok (.goto 7, 3) := by decide +kernel
theorem dX6_ask_41 : decode cX6_ask 41 = .ok (.aload_n 0, 1) := by decide +kernel
theorem dX6_ask_42 : decode cX6_ask 42 = .ok (.getfield 209, 3) := by decide +kernel
theorem dX6_ask_45 : decode cX6_ask 45 = .ok (.putfield 209, 3) := by decide +kernel
theorem dX6_ask_48 : decode cX6_ask 48 = .ok (.aload_n 0, 1) := by decide +kernel
theorem dX6_ask_49 : decode cX6_ask 49 = .ok (.iload_n 2, 1) := by decide +kernel
theorem dX6_ask_50 : decode cX6_ask 50 = .ok (.bipush 127, 2) := by decide +kernel
theorem dX6_ask_52 : decode cX6_ask 52 = .ok (.if_icmp .le 7, 3) := by decide +kernel
theorem dX6_ask_55 : decode cX6_ask 55 = .ok (.iconst 1, 1) := by decide +kernel
theorem dX6_ask_56 : decode cX6_ask 56 = .ok (.goto 4, 3) := by decide +kernel
theorem dX6_ask_59 : decode cX6_ask 59 = .ok (.iconst 0, 1) := by decide +kernel
theorem dX6_ask_60 : decode cX6_ask 60 = .ok (.putfield 212, 3) := by decide +kernel
theorem dX6_ask_63 : decode cX6_ask 63 = .ok (.aload_n 0, 1) := by decide +kernel
theorem dX6_ask_64 : decode cX6_ask 64 = .ok (.iconst 0, 1) := by decide +kernel
theorem dX6_ask_65 : decode cX6_ask 65 = .ok (.putfield 215, 3) := by decide +kernel
theorem dX6_ask_68 : decode cX6_ask 68 = .ok (.aload_n 0, 1) := by decide +kernel
theorem dX6_ask_69 : decode cX6_ask 69 = .ok (.aload_n 0, 1) := by decide +kernel
theorem dX6_ask_70 : decode cX6_ask 70 = .ok (.getfield 209, 3) := by decide +kernel
theorem dX6_ask_73 : decode cX6_ask 73 = .ok (.ifCond .le 7, 3) := by decide +kernel
theorem dX6_ask_76 : decode cX6_ask 76 = .ok (.iconst 1, 1) := by decide +kernel
theorem dX6_ask_77 : decode cX6_ask 77 = .ok (.goto 4, 3) := by decide +kernel
theorem dX6_ask_80 : decode cX6_ask 80 = .ok (.iconst 0, 1) := by decide +kernel
theorem dX6_ask_81 : decode cX6_ask 81 = .ok (.putfield 206, 3) := by decide +kernel
theorem dX6_ask_84 : decode cX6_ask 84 = .ok (.goto 49, 3) := by decide +kernel
theorem dX6_ask_87 : decode cX6_ask 87 = .ok (.aload_n 0, 1) := by decide +kernel
theorem dX6_ask_88 : decode cX6_ask 88 = .ok (.getfield 71, 3) := by decide +kernel
theorem dX6_ask_91 : decode cX6_ask 91 = .ok (.aload_n 0, 1) := by decide +kernel
theorem dX6_ask_92 : decode cX6_ask 92 = .ok (.getfield 215, 3) := by decide +kernel
theorem dX6_ask_95 : decode cX6_ask 95 = .ok (.iload_n 2, 1) := by decide +kernel
theorem dX6_ask_96 : decode cX6_ask 96 = .ok (.iastore, 1) := by decide +kernel
theorem dX6_ask_97 : decode cX6_ask 97 = .ok (.aload_n 0, 1) := by decide +kernel
theorem dX6_ask_98 : decode cX6_ask 98 = .ok (.dup, 1) := by decide +kernel
theorem dX6_ask_99 : decode cX6_ask 99 = .ok (.getfield 215, 3) := by decide +kernel
theorem dX6_ask_102 : decode cX6_ask 102 = .ok (.iconst 1, 1) := by decide +kernel
theorem dX6_ask_103 : decode cX6_ask 103 = .ok (.iadd, 1) := by decide +kernel
theorem dX6_ask_104 : decode cX6_ask 104 = .ok (.putfield 215, 3) := by decide +kernel
theorem dX6_ask_107 : decode cX6_ask 107 = .ok (.aload_n 0, 1) := by decide +kernel
theorem dX6_ask_108 : decode cX6_ask 108 = .ok (.dup, 1) := by decide +kernel
theorem dX6_ask_109 : decode cX6_ask 109 = .ok (.getfield 209, 3) := by decide +kernel
theorem dX6_ask_112 : decode cX6_ask 112 = .ok (.iconst 1, 1) := by decide +kernel
theorem dX6_ask_113 : decode cX6_ask 113 = .ok (.isub, 1) := by decide +kernel
theorem dX6_ask_114 : decode cX6_ask 114 = .ok (.putfield 209, 3) := by decide +kernel
theorem dX6_ask_117 : decode cX6_ask 117 = .ok (.aload_n 0, 1) := by decide +kernel
theorem dX6_ask_118 : decode cX6_ask 118 = .ok (.aload_n 0, 1) := by decide +kernel
theorem dX6_ask_119 : decode cX6_ask 119 = .ok (.getfield 209, 3) := by decide +kernel
theorem dX6_ask_122 : decode cX6_ask 122 = .ok (.ifCond .le 7, 3) := by decide +kernel
theorem dX6_ask_125 : decode cX6_ask 125 = .ok (.iconst 1, 1) := by decide +kernel
theorem dX6_ask_126 : decode cX6_ask 126 = .ok (.goto 4, 3) := by decide +kernel
theorem dX6_ask_129 : decode cX6_ask 129 = .ok (.iconst 0, 1) := by decide +kernel
theorem dX6_ask_130 : decode cX6_ask 130 = .ok (.putfield 206, 3) := by decide +kernel
theorem dX6_ask_133 : decode cX6_ask 133 = .ok (.aload_n 0, 1) := by decide +kernel
theorem dX6_ask_134 : decode cX6_ask 134 = .ok (.getfield 206, 3) := by decide +kernel
theorem dX6_ask_137 : decode cX6_ask 137 = .ok (.ifCond .eq 5, 3) := by decide +kernel
theorem dX6_ask_140 : decode cX6_ask 140 = .ok (.iconst 0, 1) := by decide +kernel
theorem dX6_ask_141 : decode cX6_ask 141 = .ok (.ireturn, 1) := by decide +kernel
theorem dX6_ask_142 : decode cX6_ask 142 = .ok (.aload_n 0, 1) := by decide +kernel
theorem dX6_ask_143 : decode cX6_ask 143 = .ok (.aload_n 0, 1) := by decide +kernel
theorem dX6_ask_144 : decode cX6_ask 144 = .ok (.getfield 212, 3) := by decide +kernel
theorem dX6_ask_147 : decode cX6_ask 147 = .ok (.putfield 203, 3) := by decide +kernel
theorem dX6_ask_150 : decode cX6_ask 150 = .ok (.aload_n 0, 1) := by decide +kernel
theorem dX6_ask_151 : decode cX6_ask 151 = .ok (.aload_n 0, 1) := by decide +kernel
theorem dX6_ask_152 : decode cX6_ask 152 = .ok (.getfield 215, 3) := by decide +kernel
theorem dX6_ask_155 : decode cX6_ask 155 = .ok (.putfield 138, 3) := by decide +kernel
theorem dX6_ask_158 : decode cX6_ask 158 = .ok (.iconst 0, 1) := by decide +kernel
theorem dX6_ask_159 : decode cX6_ask 159 = .ok (.istore_n 3, 1) := by decide +kernel
theorem dX6_ask_160 : decode cX6_ask 160 = .ok (.iload_n 3, 1) := by decide +kernel
theorem dX6_ask_161 : decode cX6_ask 161 = .ok (.aload_n 0, 1) := by decide +kernel
theorem dX6_ask_162 : decode cX6_ask 162 = .ok (.getfield 138, 3) := by decide +kernel
theorem dX6_ask_165 : decode cX6_ask 165 = .ok (.if_icmp .ge 21, 3) := by decide +kernel
theorem dX6_ask_168 : decode cX6_ask 168 = .ok (.aload_n 0, 1) := by decide +kernel
theorem dX6_ask_169 : decode cX6_ask 169 = .ok (.getfield 74, 3) := by decide +kernel
theorem dX6_ask_172 : decode cX6_ask 172 = .ok (.iload_n 3, 1) := by decide +kernel
theorem dX6_ask_173 : decode cX6_ask 173 = .ok (.aload_n 0, 1) := by decide +kernel
theorem dX6_ask_174 : decode cX6_ask 174 = .ok (.getfield 71, 3) := by decide +kernel
theorem dX6_ask_177 : decode cX6_ask 177 = .ok (.iload_n 3, 1) := by decide +kernel
theorem dX6_ask_178 : decode cX6_ask 178 = .ok (.iaload, 1) := by decide +kernel
theorem dX6_ask_179 : decode cX6_ask 179 = .ok (.iastore, 1) := by decide +kernel
theorem dX6_ask_180 : decode cX6_ask 180 = .ok (.iinc 3 1, 3) := by decide +kernel
theorem dX6_ask_183 : decode cX6_ask 183 = .ok (.goto (-23), 3) := by decide +kernel
theorem dX6_ask_186 : decode cX6_ask 186 = .ok (.aload_n 0, 1) := by decide +kernel
theorem dX6_ask_187 : decode cX6_ask 187 = .ok (.invokevirtual 218, 3) := by decide +kernel
theorem dX6_ask_190 : decode cX6_ask 190 = .ok (.ireturn, 1) := by decide +kernel
theorem dX6_answer_0 : decode cX6_answer 0 = .ok (.aload_n 0, 1) := by decide +kernel
theorem dX6_answer_1 : decode cX6_answer 1 = .ok (.iload_n 1, 1) := by decide +kernel
theorem dX6_answer_2 : decode cX6_answer 2 = .ok (.ifCond .lt 11, 3) := by decide +kernel
theorem dX6_answer_5 : decode cX6_answer 5 = .ok (.iload_n 1, 1) := by decide +kernel
theorem dX6_answer_6 : decode cX6_answer 6 = .ok (.aload_n 0, 1) := by decide +kernel
theorem dX6_answer_7 : decode cX6_answer 7 = .ok (.getfield 128, 3) := by decide +kernel
theorem dX6_answer_10 : decode cX6_answer 10 = .ok (.if_icmp .lt 7, 3) := by decide +kernel
theorem dX6_answer_13 : decode cX6_answer 13 = .ok (.iconst 1, 1) := by decide +kernel
theorem dX6_answer_14 : decode cX6_answer 14 = .ok (.goto 4, 3) := by decide +kernel
theorem dX6_answer_17 : decode cX6_answer 17 = .ok (.iconst 0, 1) := by decide +kernel
theorem dX6_answer_18 : decode cX6_answer 18 = .ok (.putfield 83, 3) := by decide +kernel
theorem dX6_answer_21 : decode cX6_answer 21 = .ok (.aload_n 0, 1) := by decide +kernel
theorem dX6_answer_22 : decode cX6_answer 22 = .ok (.getfield 83, 3) := by decide +kernel
theorem dX6_answer_25 : decode cX6_answer 25 = .ok (.ifCond .le 7, 3) := by decide +kernel
theorem dX6_answer_28 : decode cX6_answer 28 = .ok (.iconst 0, 1) := by decide +kernel
theorem dX6_answer_29 : decode cX6_answer 29 = .ok (.goto 10, 3) := by decide +kernel
theorem dX6_answer_32 : decode cX6_answer 32 = .ok (.aload_n 0, 1) := by decide +kernel
theorem dX6_answer_33 : decode cX6_answer 33 = .ok (.getfield 77, 3) := by decide +kernel
theorem dX6_answer_36 : decode cX6_answer 36 = .ok (.iload_n 1, 1) := by decide +kernel
theorem dX6_answer_37 : decode cX6_answer 37 = .ok (.iaload, 1) := by decide +kernel
theorem dX6_answer_38 : decode cX6_answer 38 = .ok (.i2b, 1) := by decide +kernel
theorem dX6_answer_39 : decode cX6_answer 39 = .ok (.ireturn, 1) := by decide +kernel
theorem dX6_code_0 : decode cX6_code 0 = .ok (.aload_n 0, 1) := by decide +kernel
theorem dX6_code_1 : decode cX6_code 1 = .ok (.iconst 0, 1) := by decide +kernel
theorem dX6_code_2 : decode cX6_code 2 = .ok (.putfield 83, 3) := by decide +kernel
theorem dX6_code_5 : decode cX6_code 5 = .ok (.aload_n 0, 1) := by decide +kernel
theorem dX6_code_6 : decode cX6_code 6 = .ok (.getfield 80, 3) := by decide +kernel
theorem dX6_code_9 : decode cX6_code 9 = .ok (.ireturn, 1) := by decide +kernel
theorem dX6_transfer_0 : decode cX6_transfer 0 = .ok (.aload_n 0, 1) := by decide +kernel
theorem dX6_transfer_1 : decode cX6_transfer 1 = .ok (.iconst 0, 1) := by decide +kernel
theorem dX6_transfer_2 : decode cX6_transfer 2 = .ok (.putfield 83, 3) := by decide +kernel
theorem dX6_transfer_5 : decode cX6_transfer 5 = .ok (.aload_n 0, 1) := by decide +kernel
theorem dX6_transfer_6 : decode cX6_transfer 6 = .ok (.iconst 0, 1) := by decide +kernel
theorem dX6_transfer_7 : decode cX6_transfer 7 = .ok (.putfield 203, 3) := by decide +kernel
theorem dX6_transfer_10 : decode cX6_transfer 10 = .ok (.aload_n 0, 1) := by decide +kernel
theorem dX6_transfer_11 : decode cX6_transfer 11 = .ok (.iconst 3, 1) := by decide +kernel
theorem dX6_transfer_12 : decode cX6_transfer 12 = .ok (.putfield 138, 3) := by decide +kernel
theorem dX6_transfer_15 : decode cX6_transfer 15 = .ok (.aload_n 0, 1) := by decide +kernel
theorem dX6_transfer_16 : decode cX6_transfer 16 = .ok (.getfield 74, 3) := by decide +kernel
theorem dX6_transfer_19 : decode cX6_transfer 19 = .ok (.iconst 0, 1) := by decide +kernel
theorem dX6_transfer_20 : decode cX6_transfer 20 = .ok (.bipush 54, 2) := by decide +kernel
theorem dX6_transfer_22 : decode cX6_transfer 22 = .ok (.iastore, 1) := by decide +kernel
theorem dX6_transfer_23 : decode cX6_transfer 23 = .ok (.aload_n 0, 1) := by decide +kernel
theorem dX6_transfer_24 : decode cX6_transfer 24 = .ok (.getfield 74, 3) := by decide +kernel
theorem dX6_transfer_27 : decode cX6_transfer 27 = .ok (.iconst 1, 1) := by decide +kernel
theorem dX6_transfer_28 : decode cX6_transfer 28 = .ok (.iload_n 1, 1) := by decide +kernel
theorem dX6_transfer_29 : decode cX6_transfer 29 = .ok (.sipush 255, 3) := by decide +kernel
theorem dX6_transfer_32 : decode cX6_transfer 32 = .ok (.iand, 1) := by decide +kernel
theorem dX6_transfer_33 : decode cX6_transfer 33 = .ok (.iastore, 1) := by decide +kernel
theorem dX6_transfer_34 : decode cX6_transfer 34 = .ok (.aload_n 0, 1) := by decide +kernel
theorem dX6_transfer_35 : decode cX6_transfer 35 = .ok (.getfield 74, 3) := by decide +kernel
theorem dX6_transfer_38 : decode cX6_transfer 38 = .ok (.iconst 2, 1) := by decide +kernel
theorem dX6_transfer_39 : decode cX6_transfer 39 = .ok (.iload_n 2, 1) := by decide +kernel
theorem dX6_transfer_40 : decode cX6_transfer 40 = .ok (.sipush 255, 3) := by decide +kernel
theorem dX6_transfer_43 : decode cX6_transfer 43 = .ok (.iand, 1) := by decide +kernel
theorem dX6_transfer_44 : decode cX6_transfer 44 = .ok (.iastore, 1) := by decide +kernel
theorem dX6_transfer_45 : decode cX6_transfer 45 = .ok (.aload_n 0, 1) := by decide +kernel
theorem dX6_transfer_46 : decode cX6_transfer 46 = .ok (.getfield 164, 3) := by decide +kernel
theorem dX6_transfer_49 : decode cX6_transfer 49 = .ok (.istore_n 3, 1) := by decide +kernel
theorem dX6_transfer_50 : decode cX6_transfer 50 = .ok (.aload_n 0, 1) := by decide +kernel
theorem dX6_transfer_51 : decode cX6_transfer 51 = .ok (.invokevirtual 218, 3) := by decide +kernel
theorem dX6_transfer_54 : decode cX6_transfer 54 = .ok (.istore 4, 2) := by decide +kernel
theorem dX6_transfer_56 : decode cX6_transfer 56 = .ok (.aload_n 0, 1) := by decide +kernel
theorem dX6_transfer_57 : decode cX6_transfer 57 = .ok (.getfield 80, 3) := by decide +kernel
theorem dX6_transfer_60 : decode cX6_transfer 60 = .ok (.ifCond .le 11, 3) := by decide +kernel
theorem dX6_transfer_63 : decode cX6_transfer 63 = .ok (.aload_n 0, 1) := by decide +kernel
theorem dX6_transfer_64 : decode cX6_transfer 64 = .ok (.getfield 80, 3) := by decide +kernel
theorem dX6_transfer_67 : decode cX6_transfer 67 = .ok (.ineg, 1) := by decide +kernel
theorem dX6_transfer_68 : decode cX6_transfer 68 = .ok (.goto 16, 3) := by decide +kernel
theorem dX6_transfer_71 : decode cX6_transfer 71 = .ok (.aload_n 0, 1) := by decide +kernel
theorem dX6_transfer_72 : decode cX6_transfer 72 = .ok (.getfield 164, 3) := by decide +kernel
theorem dX6_transfer_75 : decode cX6_transfer 75 = .ok (.iload_n 3, 1) := by decide +kernel
theorem dX6_transfer_76 : decode cX6_transfer 76 = .ok (.if_icmp .le 7, 3) := by decide +kernel
theorem dX6_transfer_79 : decode cX6_transfer 79 = .ok (.iconst 1, 1) := by decide +kernel
theorem dX6_transfer_80 : decode cX6_transfer 80 = .ok (.goto 4, 3) := by decide +kernel
theorem dX6_transfer_83 : decode cX6_transfer 83 = .ok (.iconst 2, 1) := by decide +kernel
theorem dX6_transfer_84 : decode cX6_transfer 84 = .ok (.ireturn, 1) := by decide +kernel
theorem dX6_tick_0 : decode cX6_tick 0 = .ok (.aload_n 0, 1) := by decide +kernel
theorem dX6_tick_1 : decode cX6_tick 1 = .ok (.iconst 0, 1) := by decide +kernel
theorem dX6_tick_2 : decode cX6_tick 2 = .ok (.putfield 83, 3) := by decide +kernel
theorem dX6_tick_5 : decode cX6_tick 5 = .ok (.lload_n 1, 1) := by decide +kernel
theorem dX6_tick_6 : decode cX6_tick 6 = .ok (.aload_n 0, 1) := by decide +kernel
theorem dX6_tick_7 : decode cX6_tick 7 = .ok (.getfield 192, 3) := by decide +kernel
theorem dX6_tick_10 : decode cX6_tick 10 = .ok (.lcmp, 1) := by decide +kernel
theorem dX6_tick_11 : decode cX6_tick 11 = .ok (.ifCond .lt 11, 3) := by decide +kernel
theorem dX6_tick_14 : decode cX6_tick 14 = .ok (.lload_n 1, 1) := by decide +kernel
theorem dX6_tick_15 : decode cX6_tick 15 = .ok (.ldc2_w 221, 3) := by decide +kernel
theorem dX6_tick_18 : decode cX6_tick 18 = .ok (.lcmp, 1) := by decide +kernel
theorem dX6_tick_19 : decode cX6_tick 19 = .ok (.ifCond .le 6, 3) := by decide +kernel
theorem dX6_tick_22 : decode cX6_tick 22 = .ok (.bipush (-2), 2) := by decide +kernel
theorem dX6_tick_24 : decode cX6_tick 24 = .ok (.ireturn, 1) := by decide +kernel
theorem dX6_tick_25 : decode cX6_tick 25 = .ok (.aload_n 0, 1) := by decide +kernel
theorem dX6_tick_26 : decode cX6_tick 26 = .ok (.lload_n 1, 1) := by decide +kernel
theorem dX6_tick_27 : decode cX6_tick 27 = .ok (.putfield 192, 3) := by decide +kernel
theorem dX6_tick_30 : decode cX6_tick 30 = .ok (.aload_n 0, 1) := by decide +kernel
theorem dX6_tick_31 : decode cX6_tick 31 = .ok (.getfield 7, 3) := by decide +kernel
theorem dX6_tick_34 : decode cX6_tick 34 = .ok (.iconst 1, 1) := by decide +kernel
theorem dX6_tick_35 : decode cX6_tick 35 = .ok (.if_icmp .eq 20, 3) := by decide +kernel
theorem dX6_tick_38 : decode cX6_tick 38 = .ok (.lload_n 1, 1) := by decide +kernel
theorem dX6_tick_39 : decode cX6_tick 39 = .ok (.aload_n 0, 1) := by decide +kernel
theorem dX6_tick_40 : decode cX6_tick 40 = .ok (.getfield 196, 3) := by decide +kernel
theorem dX6_tick_43 : decode cX6_tick 43 = .ok (.lsub, 1) := by decide +kernel
theorem dX6_tick_44 : decode cX6_tick 44 = .ok (.ldc2_w 223, 3) := by decide +kernel
theorem dX6_tick_47 : decode cX6_tick 47 = .ok (.lcmp, 1) := by decide +kernel
theorem dX6_tick_48 : decode cX6_tick 48 = .ok (.ifCond .lt 7, 3) := by decide +kernel
theorem dX6_tick_51 : decode cX6_tick 51 = .ok (.iconst 1, 1) := by decide +kernel
theorem dX6_tick_52 : decode cX6_tick 52 = .ok (.goto 4, 3) := by decide +kernel
theorem dX6_tick_55 : decode cX6_tick 55 = .ok (.iconst 0, 1) := by decide +kernel
theorem dX6_tick_56 : decode cX6_tick 56 = .ok (.istore_n 3, 1) := by decide +kernel
theorem dX6_tick_57 : decode cX6_tick 57 = .ok (.iload_n 3, 1) := by decide +kernel
theorem dX6_tick_58 : decode cX6_tick 58 = .ok (.ifCond .eq 8, 3) := by decide +kernel
theorem dX6_tick_61 : decode cX6_tick 61 = .ok (.aload_n 0, 1) := by decide +kernel
theorem dX6_tick_62 : decode cX6_tick 62 = .ok (.iconst 1, 1) := by decide +kernel
theorem dX6_tick_63 : decode cX6_tick 63 = .ok (.invokevirtual 141, 3) := by decide +kernel
theorem dX6_tick_66 : decode cX6_tick 66 = .ok (.iconst 0, 1) := by decide +kernel
theorem dX6_tick_67 : decode cX6_tick 67 = .ok (.istore 4, 2) := by decide +kernel
theorem dX6_tick_69 : decode cX6_tick 69 = .ok (.iload 4, 2) := by decide +kernel
theorem dX6_tick_71 : decode cX6_tick 71 = .ok (.aload_n 0, 1) := by decide +kernel
theorem dX6_tick_72 : decode cX6_tick 72 = .ok (.getfield 109, 3) := by decide +kernel
theorem dX6_tick_75 : decode cX6_tick 75 = .ok (.if_icmp .ge 55, 3) := by decide +kernel
theorem dX6_tick_78 : decode cX6_tick 78 = .ok (.aload_n 0, 1) := by decide +kernel
theorem dX6_tick_79 : decode cX6_tick 79 = .ok (.getfield 65, 3) := by decide +kernel
theorem dX6_tick_82 : decode cX6_tick 82 = .ok (.iload 4, 2) := by decide +kernel
theorem dX6_tick_84 : decode cX6_tick 84 = .ok (.aload_n 0, 1) := by decide +kernel
theorem dX6_tick_85 : decode cX6_tick 85 = .ok (.getfield 62, 3) := by decide +kernel
theorem dX6_tick_88 : decode cX6_tick 88 = .ok (.iload 4, 2) := by decide +kernel
theorem dX6_tick_90 : decode cX6_tick 90 = .ok (.baload, 1) := by decide +kernel
theorem dX6_tick_91 : decode cX6_tick 91 = .ok (.ifCond .eq 25, 3) := by decide +kernel
theorem dX6_tick_94 : decode cX6_tick 94 = .ok (.aload_n 0, 1) := by decide +kernel
theorem dX6_tick_95 : decode cX6_tick 95 = .ok (.getfield 65, 3) := by decide +kernel
theorem dX6_tick_98 : decode cX6_tick 98 = .ok (.iload 4, 2) := by decide +kernel
theorem dX6_tick_100 : decode cX6_tick 100 = .ok (.iaload, 1) := by decide +kernel
theorem dX6_tick_101 : decode cX6_tick 101 = .ok (.ifCond .le 15, 3) := by decide +kernel
theorem dX6_tick_104 : decode cX6_tick 104 = .ok (.aload_n 0, 1) := by decide +kernel
theorem dX6_tick_105 : decode cX6_tick 105 = .ok (.getfield 65, 3) := by decide +kernel
theorem dX6_tick_108 : decode cX6_tick 108 = .ok (.iload 4, 2) := by decide +kernel
theorem dX6_tick_110 : decode cX6_tick 110 = .ok (.iaload, 1) := by decide +kernel
theorem dX6_tick_111 : decode cX6_tick 111 = .ok (.iconst 1, 1) := by decide +kernel
theorem dX6_tick_112 : decode cX6_tick 112 = .ok (.isub, 1) := by decide +kernel
theorem dX6_tick_113 : decode cX6_tick 113 = .ok (.goto 10, 3) := by decide +kernel
theorem dX6_tick_116 : decode cX6_tick 116 = .ok (.aload_n 0, 1) := by decide +kernel
theorem dX6_tick_117 : decode cX6_tick 117 = .ok (.getfield 65, 3) := by decide +kernel
theorem dX6_tick_120 : decode cX6_tick 120 = .ok (.iload 4, 2) := by decide +kernel
theorem dX6_tick_122 : decode cX6_tick 122 = .ok (.iaload, 1) := by decide +kernel
theorem dX6_tick_123 : decode cX6_tick 123 = .ok (.iastore, 1) := by decide +kernel
theorem dX6_tick_124 : decode cX6_tick 124 = .ok (.iinc 4 1, 3) := by decide +kernel
theorem dX6_tick_127 : decode cX6_tick 127 = .ok (.goto (-58), 3) := by decide +kernel
theorem dX6_tick_130 : decode cX6_tick 130 = .ok (.iload_n 3, 1) := by decide +kernel
theorem dX6_tick_131 : decode cX6_tick 131 = .ok (.ifCond .eq 7, 3) := by decide +kernel
theorem dX6_tick_134 : decode cX6_tick 134 = .ok (.iconst 1, 1) := by decide +kernel
theorem dX6_tick_135 : decode cX6_tick 135 = .ok (.goto 4, 3) := by decide +kernel
theorem dX6_tick_138 : decode cX6_tick 138 = .ok (.iconst 0, 1) := by decide +kernel
theorem dX6_tick_139 : decode cX6_tick 139 = .ok (.ireturn, 1) := by decide +kernel
end
section
theorem dL_answer_0 : decode cL_answer 0 = .ok (.aload_n 2, 1) := by decide +kernel
theorem dL_answer_1 : decode cL_answer 1 = .ok (.iconst 0, 1) := by decide +kernel
theorem dL_answer_2 : decode cL_answer 2 = .ok (.aload_n 0, 1) := by decide +kernel
theorem dL_answer_3 : decode cL_answer 3 = .ok (.iload_n 1, 1) := by decide +kernel
theorem dL_answer_4 : decode cL_answer 4 = .ok (.invokevirtual 7, 3) := by decide +kernel
theorem dL_answer_7 : decode cL_answer 7 = .ok (.i2l, 1) := by decide +kernel
theorem dL_answer_8 : decode cL_answer 8 = .ok (.lastore, 1) := by decide +kernel
theorem dL_answer_9 : decode cL_answer 9 = .ok (.goto 6, 3) := by decide +kernel
theorem dL_answer_12 : decode cL_answer 12 = .ok (.astore_n 3, 1) := by decide +kernel
theorem dL_answer_13 : decode cL_answer 13 = .ok (.iconst 1, 1) := by decide +kernel
theorem dL_answer_14 : decode cL_answer 14 = .ok (.ireturn, 1) := by decide +kernel
theorem dL_answer_15 : decode cL_answer 15 = .ok (.iconst 0, 1) := by decide +kernel
theorem dL_answer_16 : decode cL_answer 16 = .ok (.ireturn, 1) := by decide +kernel
theorem dL_law_0 : decode cL_law 0 = .ok (.new 8, 3) := by decide +kernel
theorem dL_law_3 : decode cL_law 3 = .ok (.dup, 1) := by decide +kernel
theorem dL_law_4 : decode cL_law 4 = .ok (.invokespecial 15, 3) := by decide +kernel
theorem dL_law_7 : decode cL_law 7 = .ok (.astore_n 1, 1) := by decide +kernel
theorem dL_law_8 : decode cL_law 8 = .ok (.new 16, 3) := by decide +kernel
theorem dL_law_11 : decode cL_law 11 = .ok (.dup, 1) := by decide +kernel
theorem dL_law_12 : decode cL_law 12 = .ok (.invokespecial 18, 3) := by decide +kernel
theorem dL_law_15 : decode cL_law 15 = .ok (.astore_n 2, 1) := by decide +kernel
theorem dL_law_16 : decode cL_law 16 = .ok (.iconst 1, 1) := by decide +kernel
theorem dL_law_17 : decode cL_law 17 = .ok (.newarray .long, 2) := by decide +kernel
theorem dL_law_19 : decode cL_law 19 = .ok (.astore_n 3, 1) := by decide +kernel
theorem dL_law_20 : decode cL_law 20 = .ok (.iconst 0, 1) := by decide +kernel
theorem dL_law_21 : decode cL_law 21 = .ok (.istore 4, 2) := by decide +kernel
theorem dL_law_23 : decode cL_law 23 = .ok (.iload 4, 2) := by decide +kernel
theorem dL_law_25 : decode cL_law 25 = .ok (.aload_n 0, 1) := by decide +kernel
theorem dL_law_26 : decode cL_law 26 = .ok (.arraylength, 1) := by decide +kernel
theorem dL_law_27 : decode cL_law 27 = .ok (.iconst 5, 1) := by decide +kernel
theorem dL_law_28 : decode cL_law 28 = .ok (.isub, 1) := by decide +kernel
theorem dL_law_29 : decode cL_law 29 = .ok (.if_icmp .gt 630, 3) := by decide +kernel
theorem dL_law_32 : decode cL_law 32 = .ok (.aload_n 0, 1) := by decide +kernel
theorem dL_law_33 : decode cL_law 33 = .ok (.iload 4, 2) := by decide +kernel
theorem dL_law_35 : decode cL_law 35 = .ok (.iaload, 1) := by decide +kernel
theorem dL_law_36 : decode cL_law 36 = .ok (.bipush 15, 2) := by decide +kernel
theorem dL_law_38 : decode cL_law 38 = .ok (.iand, 1) := by decide +kernel
theorem dL_law_39 : decode cL_law 39 = .ok (.tableswitch 614 0 12 #[65, 126, 175, 212, 265, 290, 371, 396, 423, 479, 492, 531, 588], 65) := by decide +kernel
theorem dL_law_104 : decode cL_law 104 = .ok (.aload_n 1, 1) := by decide +kernel
theorem dL_law_105 : decode cL_law 105 = .ok (.aload_n 0, 1) := by decide +kernel
theorem dL_law_106 : decode cL_law 106 = .ok (.iload 4, 2) := by decide +kernel
theorem dL_law_108 : decode cL_law 108 = .ok (.iconst 1, 1) := by decide +kernel
theorem dL_law_109 : decode cL_law 109 = .ok (.iadd, 1) := by decide +kernel
theorem dL_law_110 : decode cL_law 110 = .ok (.iaload, 1) := by decide +kernel
theorem dL_law_111 : decode cL_law 111 = .ok (.aload_n 0, 1) := by decide +kernel
theorem dL_law_112 : decode cL_law 112 = .ok (.iload 4, 2) := by decide +kernel
theorem dL_law_114 : decode cL_law 114 = .ok (.iconst 2, 1) := by decide +kernel
theorem dL_law_115 : decode cL_law 115 = .ok (.iadd, 1) := by decide +kernel
theorem dL_law_116 : decode cL_law 116 = .ok (.iaload, 1) := by decide +kernel
theorem dL_law_117 : decode cL_law 117 = .ok (.aload_n 0, 1) := by decide +kernel
theorem dL_law_118 : decode cL_law 118 = .ok (.iload 4, 2) := by decide +kernel
theorem dL_law_120 : decode cL_law 120 = .ok (.iconst 3, 1) := by decide +kernel
theorem dL_law_121 : decode cL_law 121 = .ok (.iadd, 1) := by decide +kernel
theorem dL_law_122 : decode cL_law 122 = .ok (.iaload, 1) := by decide +kernel
theorem dL_law_123 : decode cL_law 123 = .ok (.aload_n 0, 1) := by decide +kernel
theorem dL_law_124 : decode cL_law 124 = .ok (.iload 4, 2) := by decide +kernel
theorem dL_law_126 : decode cL_law 126 = .ok (.iconst 4, 1) := by decide +kernel
theorem dL_law_127 : decode cL_law 127 = .ok (.iadd, 1) := by decide +kernel
theorem dL_law_128 : decode cL_law 128 = .ok (.iaload, 1) := by decide +kernel
theorem dL_law_129 : decode cL_law 129 = .ok (.invokevirtual 19, 3) := by decide +kernel
theorem dL_law_132 : decode cL_law 132 = .ok (.aload_n 2, 1) := by decide +kernel
theorem dL_law_133 : decode cL_law 133 = .ok (.aload_n 0, 1) := by decide +kernel
theorem dL_law_134 : decode cL_law 134 = .ok (.iload 4, 2) := by decide +kernel
theorem dL_law_136 : decode cL_law 136 = .ok (.iconst 1, 1) := by decide +kernel
theorem dL_law_137 : decode cL_law 137 = .ok (.iadd, 1) := by decide +kernel
theorem dL_law_138 : decode cL_law 138 = .ok (.iaload, 1) := by decide +kernel
theorem dL_law_139 : decode cL_law 139 = .ok (.aload_n 0, 1) := by decide +kernel
theorem dL_law_140 : decode cL_law 140 = .ok (.iload 4, 2) := by decide +kernel
theorem dL_law_142 : decode cL_law 142 = .ok (.iconst 2, 1) := by decide +kernel
theorem dL_law_143 : decode cL_law 143 = .ok (.iadd, 1) := by decide +kernel
theorem dL_law_144 : decode cL_law 144 = .ok (.iaload, 1) := by decide +kernel
theorem dL_law_145 : decode cL_law 145 = .ok (.aload_n 0, 1) := by decide +kernel
theorem dL_law_146 : decode cL_law 146 = .ok (.iload 4, 2) := by decide +kernel
theorem dL_law_148 : decode cL_law 148 = .ok (.iconst 3, 1) := by decide +kernel
theorem dL_law_149 : decode cL_law 149 = .ok (.iadd, 1) := by decide +kernel
theorem dL_law_150 : decode cL_law 150 = .ok (.iaload, 1) := by decide +kernel
theorem dL_law_151 : decode cL_law 151 = .ok (.aload_n 0, 1) := by decide +kernel
theorem dL_law_152 : decode cL_law 152 = .ok (.iload 4, 2) := by decide +kernel
theorem dL_law_154 : decode cL_law 154 = .ok (.iconst 4, 1) := by decide +kernel
theorem dL_law_155 : decode cL_law 155 = .ok (.iadd, 1) := by decide +kernel
theorem dL_law_156 : decode cL_law 156 = .ok (.iaload, 1) := by decide +kernel
theorem dL_law_157 : decode cL_law 157 = .ok (.invokevirtual 23, 3) := by decide +kernel
theorem dL_law_160 : decode cL_law 160 = .ok (.if_icmp .eq 493, 3) := by decide +kernel
theorem dL_law_163 : decode cL_law 163 = .ok (.iconst 0, 1) := by decide +kernel
theorem dL_law_164 : decode cL_law 164 = .ok (.ireturn, 1) := by decide +kernel
theorem dL_law_165 : decode cL_law 165 = .ok (.aload_n 1, 1) := by decide +kernel
theorem dL_law_166 : decode cL_law 166 = .ok (.aload_n 0, 1) := by decide +kernel
theorem dL_law_167 : decode cL_law 167 = .ok (.iload 4, 2) := by decide +kernel
theorem dL_law_169 : decode cL_law 169 = .ok (.iconst 1, 1) := by decide +kernel
theorem dL_law_170 : decode cL_law 170 = .ok (.iadd, 1) := by decide +kernel
theorem dL_law_171 : decode cL_law 171 = .ok (.iaload, 1) := by decide +kernel
theorem dL_law_172 : decode cL_law 172 = .ok (.aload_n 0, 1) := by decide +kernel
theorem dL_law_173 : decode cL_law 173 = .ok (.iload 4, 2) := by decide +kernel
theorem dL_law_175 : decode cL_law 175 = .ok (.iconst 2, 1) := by decide +kernel
theorem dL_law_176 : decode cL_law 176 = .ok (.iadd, 1) := by decide +kernel
theorem dL_law_177 : decode cL_law 177 = .ok (.iaload, 1) := by decide +kernel
theorem dL_law_178 : decode cL_law 178 = .ok (.aload_n 0, 1) := by decide +kernel
theorem dL_law_179 : decode cL_law 179 = .ok (.iload 4, 2) := by decide +kernel
theorem dL_law_181 : decode cL_law 181 = .ok (.iconst 3, 1) := by decide +kernel
theorem dL_law_182 : decode cL_law 182 = .ok (.iadd, 1) := by decide +kernel
theorem dL_law_183 : decode cL_law 183 = .ok (.iaload, 1) := by decide +kernel
theorem dL_law_184 : decode cL_law 184 = .ok (.invokevirtual 24, 3) := by decide +kernel
theorem dL_law_187 : decode cL_law 187 = .ok (.aload_n 2, 1) := by decide +kernel
theorem dL_law_188 : decode cL_law 188 = .ok (.aload_n 0, 1) := by decide +kernel
theorem dL_law_189 : decode cL_law 189 = .ok (.iload 4, 2) := by decide +kernel
theorem dL_law_191 : decode cL_law 191 = .ok (.iconst 1, 1) := by decide +kernel
theorem dL_law_192 : decode cL_law 192 = .ok (.iadd, 1) := by decide +kernel
theorem dL_law_193 : decode cL_law 193 = .ok (.iaload, 1) := by decide +kernel
theorem dL_law_194 : decode cL_law 194 = .ok (.aload_n 0, 1) := by decide +kernel
theorem dL_law_195 : decode cL_law 195 = .ok (.iload 4, 2) := by decide +kernel
theorem dL_law_197 : decode cL_law 197 = .ok (.iconst 2, 1) := by decide +kernel
theorem dL_law_198 : decode cL_law 198 = .ok (.iadd, 1) := by decide +kernel
theorem dL_law_199 : decode cL_law 199 = .ok (.iaload, 1) := by decide +kernel
theorem dL_law_200 : decode cL_law 200 = .ok (.aload_n 0, 1) := by decide +kernel
theorem dL_law_201 : decode cL_law 201 = .ok (.iload 4, 2) := by decide +kernel
theorem dL_law_203 : decode cL_law 203 = .ok (.iconst 3, 1) := by decide +kernel
theorem dL_law_204 : decode cL_law 204 = .ok (.iadd, 1) := by decide +kernel
theorem dL_law_205 : decode cL_law 205 = .ok (.iaload, 1) := by decide +kernel
theorem dL_law_206 : decode cL_law 206 = .ok (.invokevirtual 28, 3) := by decide +kernel
theorem dL_law_209 : decode cL_law 209 = .ok (.if_icmp .eq 444, 3) := by decide +kernel
theorem dL_law_212 : decode cL_law 212 = .ok (.iconst 0, 1) := by decide +kernel
theorem dL_law_213 : decode cL_law 213 = .ok (.ireturn, 1) := by decide +kernel
theorem dL_law_214 : decode cL_law 214 = .ok (.aload_n 1, 1) := by decide +kernel
theorem dL_law_215 : decode cL_law 215 = .ok (.aload_n 0, 1) := by decide +kernel
theorem dL_law_216 : decode cL_law 216 = .ok (.iload 4, 2) := by decide +kernel
theorem dL_law_218 : decode cL_law 218 = .ok (.iconst 1, 1) := by decide +kernel
theorem dL_law_219 : decode cL_law 219 = .ok (.iadd, 1) := by decide +kernel
theorem dL_law_220 : decode cL_law 220 = .ok (.iaload, 1) := by decide +kernel
theorem dL_law_221 : decode cL_law 221 = .ok (.aload_n 0, 1) := by decide +kernel
theorem dL_law_222 : decode cL_law 222 = .ok (.iload 4, 2) := by decide +kernel
theorem dL_law_224 : decode cL_law 224 = .ok (.iconst 2, 1) := by decide +kernel
theorem dL_law_225 : decode cL_law 225 = .ok (.iadd, 1) := by decide +kernel
theorem dL_law_226 : decode cL_law 226 = .ok (.iaload, 1) := by decide +kernel
theorem dL_law_227 : decode cL_law 227 = .ok (.invokevirtual 29, 3) := by decide +kernel
theorem dL_law_230 : decode cL_law 230 = .ok (.aload_n 2, 1) := by decide +kernel
theorem dL_law_231 : decode cL_law 231 = .ok (.aload_n 0, 1) := by decide +kernel
theorem dL_law_232 : decode cL_law 232 = .ok (.iload 4, 2) := by decide +kernel
theorem dL_law_234 : decode cL_law 234 = .ok (.iconst 1, 1) := by decide +kernel
theorem dL_law_235 : decode cL_law 235 = .ok (.iadd, 1) := by decide +kernel
theorem dL_law_236 : decode cL_law 236 = .ok (.iaload, 1) := by decide +kernel
theorem dL_law_237 : decode cL_law 237 = .ok (.aload_n 0, 1) := by decide +kernel
theorem dL_law_238 : decode cL_law 238 = .ok (.iload 4, 2) := by decide +kernel
theorem dL_law_240 : decode cL_law 240 = .ok (.iconst 2, 1) := by decide +kernel
theorem dL_law_241 : decode cL_law 241 = .ok (.iadd, 1) := by decide +kernel
theorem dL_law_242 : decode cL_law 242 = .ok (.iaload, 1) := by decide +kernel
theorem dL_law_243 : decode cL_law 243 = .ok (.invokevirtual 33, 3) := by decide +kernel
theorem dL_law_246 : decode cL_law 246 = .ok (.if_icmp .eq 407, 3) := by decide +kernel
theorem dL_law_249 : decode cL_law 249 = .ok (.iconst 0, 1) := by decide +kernel
theorem dL_law_250 : decode cL_law 250 = .ok (.ireturn, 1) := by decide +kernel
theorem dL_law_251 : decode cL_law 251 = .ok (.aload_n 1, 1) := by decide +kernel
theorem dL_law_252 : decode cL_law 252 = .ok (.aload_n 0, 1) := by decide +kernel
theorem dL_law_253 : decode cL_law 253 = .ok (.iload 4, 2) := by decide +kernel
theorem dL_law_255 : decode cL_law 255 = .ok (.iconst 1, 1) := by decide +kernel
theorem dL_law_256 : decode cL_law 256 = .ok (.iadd, 1) := by decide +kernel
theorem dL_law_257 : decode cL_law 257 = .ok (.iaload, 1) := by decide +kernel
theorem dL_law_258 : decode cL_law 258 = .ok (.aload_n 0, 1) := by decide +kernel
theorem dL_law_259 : decode cL_law 259 = .ok (.iload 4, 2) := by decide +kernel
theorem dL_law_261 : decode cL_law 261 = .ok (.iconst 2, 1) := by decide +kernel
theorem dL_law_262 : decode cL_law 262 = .ok (.iadd, 1) := by decide +kernel
theorem dL_law_263 : decode cL_law 263 = .ok (.iaload, 1) := by decide +kernel
theorem dL_law_264 : decode cL_law 264 = .ok (.ifCond .eq 7, 3) := by decide +kernel
theorem dL_law_267 : decode cL_law 267 = .ok (.iconst 1, 1) := by decide +kernel
theorem dL_law_268 : decode cL_law 268 = .ok (.goto 4, 3) := by decide +kernel
theorem dL_law_271 : decode cL_law 271 = .ok (.iconst 0, 1) := by decide +kernel
theorem dL_law_272 : decode cL_law 272 = .ok (.invokevirtual 34, 3) := by decide +kernel
theorem dL_law_275 : decode cL_law 275 = .ok (.aload_n 2, 1) := by decide +kernel
theorem dL_law_276 : decode cL_law 276 = .ok (.aload_n 0, 1) := by decide +kernel
theorem dL_law_277 : decode cL_law 277 = .ok (.iload 4, 2) := by decide +kernel
theorem dL_law_279 : decode cL_law 279 = .ok (.iconst 1, 1) := by decide +kernel
theorem dL_law_280 : decode cL_law 280 = .ok (.iadd, 1) := by decide +kernel
theorem dL_law_281 : decode cL_law 281 = .ok (.iaload, 1) := by decide +kernel
theorem dL_law_282 : decode cL_law 282 = .ok (.aload_n 0, 1) := by decide +kernel
theorem dL_law_283 : decode cL_law 283 = .ok (.iload 4, 2) := by decide +kernel
theorem dL_law_285 : decode cL_law 285 = .ok (.iconst 2, 1) := by decide +kernel
theorem dL_law_286 : decode cL_law 286 = .ok (.iadd, 1) := by decide +kernel
theorem dL_law_287 : decode cL_law 287 = .ok (.iaload, 1) := by decide +kernel
theorem dL_law_288 : decode cL_law 288 = .ok (.ifCond .eq 7, 3) := by decide +kernel
theorem dL_law_291 : decode cL_law 291 = .ok (.iconst 1, 1) := by decide +kernel
theorem dL_law_292 : decode cL_law 292 = .ok (.goto 4, 3) := by decide +kernel
theorem dL_law_295 : decode cL_law 295 = .ok (.iconst 0, 1) := by decide +kernel
theorem dL_law_296 : decode cL_law 296 = .ok (.invokevirtual 38, 3) := by decide +kernel
theorem dL_law_299 : decode cL_law 299 = .ok (.if_icmp .eq 354, 3) := by decide +kernel
theorem dL_law_302 : decode cL_law 302 = .ok (.iconst 0, 1) := by decide +kernel
theorem dL_law_303 : decode cL_law 303 = .ok (.ireturn, 1) := by decide +kernel
theorem dL_law_304 : decode cL_law 304 = .ok (.aload_n 1, 1) := by decide +kernel
theorem dL_law_305 : decode cL_law 305 = .ok (.aload_n 0, 1) := by decide +kernel
theorem dL_law_306 : decode cL_law 306 = .ok (.iload 4, 2) := by decide +kernel
theorem dL_law_308 : decode cL_law 308 = .ok (.iconst 1, 1) := by decide +kernel
theorem dL_law_309 : decode cL_law 309 = .ok (.iadd, 1) := by decide +kernel
theorem dL_law_310 : decode cL_law 310 = .ok (.iaload, 1) := by decide +kernel
theorem dL_law_311 : decode cL_law 311 = .ok (.invokevirtual 39, 3) := by decide +kernel
theorem dL_law_314 : decode cL_law 314 = .ok (.aload_n 2, 1) := by decide +kernel
theorem dL_law_315 : decode cL_law 315 = .ok (.aload_n 0, 1) := by decide +kernel
theorem dL_law_316 : decode cL_law 316 = .ok (.iload 4, 2) := by decide +kernel
theorem dL_law_318 : decode cL_law 318 = .ok (.iconst 1, 1) := by decide +kernel
theorem dL_law_319 : decode cL_law 319 = .ok (.iadd, 1) := by decide +kernel
theorem dL_law_320 : decode cL_law 320 = .ok (.iaload, 1) := by decide +kernel
theorem dL_law_321 : decode cL_law 321 = .ok (.invokevirtual 43, 3) := by decide +kernel
theorem dL_law_324 : decode cL_law 324 = .ok (.if_icmp .eq 329, 3) := by decide +kernel
theorem dL_law_327 : decode cL_law 327 = .ok (.iconst 0, 1) := by decide +kernel
theorem dL_law_328 : decode cL_law 328 = .ok (.ireturn, 1) := by decide +kernel
theorem dL_law_329 : decode cL_law 329 = .ok (.aload_n 1, 1) := by decide +kernel
theorem dL_law_330 : decode cL_law 330 = .ok (.aload_n 0, 1) := by decide +kernel
theorem dL_law_331 : decode cL_law 331 = .ok (.iload 4, 2) := by decide +kernel
theorem dL_law_333 : decode cL_law 333 = .ok (.iconst 1, 1) := by decide +kernel
theorem dL_law_334 : decode cL_law 334 = .ok (.iadd, 1) := by decide +kernel
theorem dL_law_335 : decode cL_law 335 = .ok (.iaload, 1) := by decide +kernel
theorem dL_law_336 : decode cL_law 336 = .ok (.aload_n 0, 1) := by decide +kernel
theorem dL_law_337 : decode cL_law 337 = .ok (.iload 4, 2) := by decide +kernel
theorem dL_law_339 : decode cL_law 339 = .ok (.iconst 2, 1) := by decide +kernel
theorem dL_law_340 : decode cL_law 340 = .ok (.iadd, 1) := by decide +kernel
theorem dL_law_341 : decode cL_law 341 = .ok (.iaload, 1) := by decide +kernel
theorem dL_law_342 : decode cL_law 342 = .ok (.aload_n 0, 1) := by decide +kernel
theorem dL_law_343 : decode cL_law 343 = .ok (.iload 4, 2) := by decide +kernel
theorem dL_law_345 : decode cL_law 345 = .ok (.iconst 3, 1) := by decide +kernel
theorem dL_law_346 : decode cL_law 346 = .ok (.iadd, 1) := by decide +kernel
theorem dL_law_347 : decode cL_law 347 = .ok (.iaload, 1) := by decide +kernel
theorem dL_law_348 : decode cL_law 348 = .ok (.i2l, 1) := by decide +kernel
theorem dL_law_349 : decode cL_law 349 = .ok (.bipush 32, 2) := by decide +kernel
theorem dL_law_351 : decode cL_law 351 = .ok (.lshl, 1) := by decide +kernel
theorem dL_law_352 : decode cL_law 352 = .ok (.aload_n 0, 1) := by decide +kernel
theorem dL_law_353 : decode cL_law 353 = .ok (.iload 4, 2) := by decide +kernel
theorem dL_law_355 : decode cL_law 355 = .ok (.iconst 4, 1) := by decide +kernel
theorem dL_law_356 : decode cL_law 356 = .ok (.iadd, 1) := by decide +kernel
theorem dL_law_357 : decode cL_law 357 = .ok (.iaload, 1) := by decide +kernel
theorem dL_law_358 : decode cL_law 358 = .ok (.i2l, 1) := by decide +kernel
theorem dL_law_359 : decode cL_law 359 = .ok (.ldc2_w 44, 3) := by decide +kernel
theorem dL_law_362 : decode cL_law 362 = .ok (.land, 1) := by decide +kernel
theorem dL_law_363 : decode cL_law 363 = .ok (.lor, 1) := by decide +kernel
theorem dL_law_364 : decode cL_law 364 = .ok (.invokevirtual 46, 3) := by decide +kernel
theorem dL_law_367 : decode cL_law 367 = .ok (.aload_n 2, 1) := by decide +kernel
theorem dL_law_368 : decode cL_law 368 = .ok (.aload_n 0, 1) := by decide +kernel
theorem dL_law_369 : decode cL_law 369 = .ok (.iload 4, 2) := by decide +kernel
theorem dL_law_371 : decode cL_law 371 = .ok (.iconst 1, 1) := by decide +kernel
theorem dL_law_372 : decode cL_law 372 = .ok (.iadd, 1) := by decide +kernel
theorem dL_law_373 : decode cL_law 373 = .ok (.iaload, 1) := by decide +kernel
theorem dL_law_374 : decode cL_law 374 = .ok (.aload_n 0, 1) := by decide +kernel
theorem dL_law_375 : decode cL_law 375 = .ok (.iload 4, 2) := by decide +kernel
theorem dL_law_377 : decode cL_law 377 = .ok (.iconst 2, 1) := by decide +kernel
theorem dL_law_378 : decode cL_law 378 = .ok (.iadd, 1) := by decide +kernel
theorem dL_law_379 : decode cL_law 379 = .ok (.iaload, 1) := by decide +kernel
theorem dL_law_380 : decode cL_law 380 = .ok (.aload_n 0, 1) := by decide +kernel
theorem dL_law_381 : decode cL_law 381 = .ok (.iload 4, 2) := by decide +kernel
theorem dL_law_383 : decode cL_law 383 = .ok (.iconst 3, 1) := by decide +kernel
theorem dL_law_384 : decode cL_law 384 = .ok (.iadd, 1) := by decide +kernel
theorem dL_law_385 : decode cL_law 385 = .ok (.iaload, 1) := by decide +kernel
theorem dL_law_386 : decode cL_law 386 = .ok (.i2l, 1) := by decide +kernel
theorem dL_law_387 : decode cL_law 387 = .ok (.bipush 32, 2) := by decide +kernel
theorem dL_law_389 : decode cL_law 389 = .ok (.lshl, 1) := by decide +kernel
theorem dL_law_390 : decode cL_law 390 = .ok (.aload_n 0, 1) := by decide +kernel
theorem dL_law_391 : decode cL_law 391 = .ok (.iload 4, 2) := by decide +kernel
theorem dL_law_393 : decode cL_law 393 = .ok (.iconst 4, 1) := by decide +kernel
theorem dL_law_394 : decode cL_law 394 = .ok (.iadd, 1) := by decide +kernel
theorem dL_law_395 : decode cL_law 395 = .ok (.iaload, 1) := by decide +kernel
theorem dL_law_396 : decode cL_law 396 = .ok (.i2l, 1) := by decide +kernel
theorem dL_law_397 : decode cL_law 397 = .ok (.ldc2_w 44, 3) := by decide +kernel
theorem dL_law_400 : decode cL_law 400 = .ok (.land, 1) := by decide +kernel
theorem dL_law_401 : decode cL_law 401 = .ok (.lor, 1) := by decide +kernel
theorem dL_law_402 : decode cL_law 402 = .ok (.invokevirtual 50, 3) := by decide +kernel
theorem dL_law_405 : decode cL_law 405 = .ok (.if_icmp .eq 248, 3) := by decide +kernel
theorem dL_law_408 : decode cL_law 408 = .ok (.iconst 0, 1) := by decide +kernel
theorem dL_law_409 : decode cL_law 409 = .ok (.ireturn, 1) := by decide +kernel
theorem dL_law_410 : decode cL_law 410 = .ok (.aload_n 1, 1) := by decide +kernel
theorem dL_law_411 : decode cL_law 411 = .ok (.aload_n 0, 1) := by decide +kernel
theorem dL_law_412 : decode cL_law 412 = .ok (.iload 4, 2) := by decide +kernel
theorem dL_law_414 : decode cL_law 414 = .ok (.iconst 1, 1) := by decide +kernel
theorem dL_law_415 : decode cL_law 415 = .ok (.iadd, 1) := by decide +kernel
theorem dL_law_416 : decode cL_law 416 = .ok (.iaload, 1) := by decide +kernel
theorem dL_law_417 : decode cL_law 417 = .ok (.invokevirtual 51, 3) := by decide +kernel
theorem dL_law_420 : decode cL_law 420 = .ok (.aload_n 2, 1) := by decide +kernel
theorem dL_law_421 : decode cL_law 421 = .ok (.aload_n 0, 1) := by decide +kernel
theorem dL_law_422 : decode cL_law 422 = .ok (.iload 4, 2) := by decide +kernel
theorem dL_law_424 : decode cL_law 424 = .ok (.iconst 1, 1) := by decide +kernel
theorem dL_law_425 : decode cL_law 425 = .ok (.iadd, 1) := by decide +kernel
theorem dL_law_426 : decode cL_law 426 = .ok (.iaload, 1) := by decide +kernel
theorem dL_law_427 : decode cL_law 427 = .ok (.invokevirtual 54, 3) := by decide +kernel
theorem dL_law_430 : decode cL_law 430 = .ok (.if_icmp .eq 223, 3) := by decide +kernel
theorem dL_law_433 : decode cL_law 433 = .ok (.iconst 0, 1) := by decide +kernel
theorem dL_law_434 : decode cL_law 434 = .ok (.ireturn, 1) := by decide +kernel
theorem dL_law_435 : decode cL_law 435 = .ok (.aload_n 1, 1) := by decide +kernel
theorem dL_law_436 : decode cL_law 436 = .ok (.aload_n 0, 1) := by decide +kernel
theorem dL_law_437 : decode cL_law 437 = .ok (.iload 4, 2) := by decide +kernel
theorem dL_law_439 : decode cL_law 439 = .ok (.iconst 1, 1) := by decide +kernel
theorem dL_law_440 : decode cL_law 440 = .ok (.iadd, 1) := by decide +kernel
theorem dL_law_441 : decode cL_law 441 = .ok (.iaload, 1) := by decide +kernel
theorem dL_law_442 : decode cL_law 442 = .ok (.i2b, 1) := by decide +kernel
theorem dL_law_443 : decode cL_law 443 = .ok (.invokevirtual 55, 3) := by decide +kernel
theorem dL_law_446 : decode cL_law 446 = .ok (.aload_n 2, 1) := by decide +kernel
theorem dL_law_447 : decode cL_law 447 = .ok (.aload_n 0, 1) := by decide +kernel
theorem dL_law_448 : decode cL_law 448 = .ok (.iload 4, 2) := by decide +kernel
theorem dL_law_450 : decode cL_law 450 = .ok (.iconst 1, 1) := by decide +kernel
theorem dL_law_451 : decode cL_law 451 = .ok (.iadd, 1) := by decide +kernel
theorem dL_law_452 : decode cL_law 452 = .ok (.iaload, 1) := by decide +kernel
theorem dL_law_453 : decode cL_law 453 = .ok (.i2b, 1) := by decide +kernel
theorem dL_law_454 : decode cL_law 454 = .ok (.invokevirtual 59, 3) := by decide +kernel
theorem dL_law_457 : decode cL_law 457 = .ok (.if_icmp .eq 196, 3) := by decide +kernel
theorem dL_law_460 : decode cL_law 460 = .ok (.iconst 0, 1) := by decide +kernel
theorem dL_law_461 : decode cL_law 461 = .ok (.ireturn, 1) := by decide +kernel
theorem dL_law_462 : decode cL_law 462 = .ok (.aload_n 1, 1) := by decide +kernel
theorem dL_law_463 : decode cL_law 463 = .ok (.aload_n 0, 1) := by decide +kernel
theorem dL_law_464 : decode cL_law 464 = .ok (.iload 4, 2) := by decide +kernel
theorem dL_law_466 : decode cL_law 466 = .ok (.iconst 1, 1) := by decide +kernel
theorem dL_law_467 : decode cL_law 467 = .ok (.iadd, 1) := by decide +kernel
theorem dL_law_468 : decode cL_law 468 = .ok (.iaload, 1) := by decide +kernel
theorem dL_law_469 : decode cL_law 469 = .ok (.aload_n 3, 1) := by decide +kernel
theorem dL_law_470 : decode cL_law 470 = .ok (.invokestatic 60, 3) := by decide +kernel
theorem dL_law_473 : decode cL_law 473 = .ok (.istore 5, 2) := by decide +kernel
theorem dL_law_475 : decode cL_law 475 = .ok (.aload_n 2, 1) := by decide +kernel
theorem dL_law_476 : decode cL_law 476 = .ok (.aload_n 0, 1) := by decide +kernel
theorem dL_law_477 : decode cL_law 477 = .ok (.iload 4, 2) := by decide +kernel
theorem dL_law_479 : decode cL_law 479 = .ok (.iconst 1, 1) := by decide +kernel
theorem dL_law_480 : decode cL_law 480 = .ok (.iadd, 1) := by decide +kernel
theorem dL_law_481 : decode cL_law 481 = .ok (.iaload, 1) := by decide +kernel
theorem dL_law_482 : decode cL_law 482 = .ok (.invokevirtual 65, 3) := by decide +kernel
theorem dL_law_485 : decode cL_law 485 = .ok (.istore 6, 2) := by decide +kernel
theorem dL_law_487 : decode cL_law 487 = .ok (.aload_n 2, 1) := by decide +kernel
theorem dL_law_488 : decode cL_law 488 = .ok (.invokevirtual 66, 3) := by decide +kernel
theorem dL_law_491 : decode cL_law 491 = .ok (.iload 5, 2) := by decide +kernel
theorem dL_law_493 : decode cL_law 493 = .ok (.if_icmp .eq 5, 3) := by decide +kernel
theorem dL_law_496 : decode cL_law 496 = .ok (.iconst 0, 1) := by decide +kernel
theorem dL_law_497 : decode cL_law 497 = .ok (.ireturn, 1) := by decide +kernel
theorem dL_law_498 : decode cL_law 498 = .ok (.iload 5, 2) := by decide +kernel
theorem dL_law_500 : decode cL_law 500 = .ok (.ifCond .ne 15, 3) := by decide +kernel
theorem dL_law_503 : decode cL_law 503 = .ok (.aload_n 3, 1) := by decide +kernel
theorem dL_law_504 : decode cL_law 504 = .ok (.iconst 0, 1) := by decide +kernel
theorem dL_law_505 : decode cL_law 505 = .ok (.laload, 1) := by decide +kernel
theorem dL_law_506 : decode cL_law 506 = .ok (.iload 6, 2) := by decide +kernel
theorem dL_law_508 : decode cL_law 508 = .ok (.i2l, 1) := by decide +kernel
theorem dL_law_509 : decode cL_law 509 = .ok (.lcmp, 1) := by decide +kernel
theorem dL_law_510 : decode cL_law 510 = .ok (.ifCond .eq 5, 3) := by decide +kernel
theorem dL_law_513 : decode cL_law 513 = .ok (.iconst 0, 1) := by decide +kernel
theorem dL_law_514 : decode cL_law 514 = .ok (.ireturn, 1) := by decide +kernel
theorem dL_law_515 : decode cL_law 515 = .ok (.goto 138, 3) := by decide +kernel
theorem dL_law_518 : decode cL_law 518 = .ok (.aload_n 1, 1) := by decide +kernel
theorem dL_law_519 : decode cL_law 519 = .ok (.invokevirtual 70, 3) := by decide +kernel
theorem dL_law_522 : decode cL_law 522 = .ok (.aload_n 2, 1) := by decide +kernel
theorem dL_law_523 : decode cL_law 523 = .ok (.invokevirtual 73, 3) := by decide +kernel
theorem dL_law_526 : decode cL_law 526 = .ok (.if_icmp .eq 127, 3) := by decide +kernel
theorem dL_law_529 : decode cL_law 529 = .ok (.iconst 0, 1) := by decide +kernel
theorem dL_law_530 : decode cL_law 530 = .ok (.ireturn, 1) := by decide +kernel
theorem dL_law_531 : decode cL_law 531 = .ok (.aload_n 1, 1) := by decide +kernel
theorem dL_law_532 : decode cL_law 532 = .ok (.aload_n 0, 1) := by decide +kernel
theorem dL_law_533 : decode cL_law 533 = .ok (.iload 4, 2) := by decide +kernel
theorem dL_law_535 : decode cL_law 535 = .ok (.iconst 1, 1) := by decide +kernel
theorem dL_law_536 : decode cL_law 536 = .ok (.iadd, 1) := by decide +kernel
theorem dL_law_537 : decode cL_law 537 = .ok (.iaload, 1) := by decide +kernel
theorem dL_law_538 : decode cL_law 538 = .ok (.aload_n 0, 1) := by decide +kernel
theorem dL_law_539 : decode cL_law 539 = .ok (.iload 4, 2) := by decide +kernel
theorem dL_law_541 : decode cL_law 541 = .ok (.iconst 2, 1) := by decide +kernel
theorem dL_law_542 : decode cL_law 542 = .ok (.iadd, 1) := by decide +kernel
theorem dL_law_543 : decode cL_law 543 = .ok (.iaload, 1) := by decide +kernel
theorem dL_law_544 : decode cL_law 544 = .ok (.i2b, 1) := by decide +kernel
theorem dL_law_545 : decode cL_law 545 = .ok (.invokevirtual 74, 3) := by decide +kernel
theorem dL_law_548 : decode cL_law 548 = .ok (.aload_n 2, 1) := by decide +kernel
theorem dL_law_549 : decode cL_law 549 = .ok (.aload_n 0, 1) := by decide +kernel
theorem dL_law_550 : decode cL_law 550 = .ok (.iload 4, 2) := by decide +kernel
theorem dL_law_552 : decode cL_law 552 = .ok (.iconst 1, 1) := by decide +kernel
theorem dL_law_553 : decode cL_law 553 = .ok (.iadd, 1) := by decide +kernel
theorem dL_law_554 : decode cL_law 554 = .ok (.iaload, 1) := by decide +kernel
theorem dL_law_555 : decode cL_law 555 = .ok (.aload_n 0, 1) := by decide +kernel
theorem dL_law_556 : decode cL_law 556 = .ok (.iload 4, 2) := by decide +kernel
theorem dL_law_558 : decode cL_law 558 = .ok (.iconst 2, 1) := by decide +kernel
theorem dL_law_559 : decode cL_law 559 = .ok (.iadd, 1) := by decide +kernel
theorem dL_law_560 : decode cL_law 560 = .ok (.iaload, 1) := by decide +kernel
theorem dL_law_561 : decode cL_law 561 = .ok (.i2b, 1) := by decide +kernel
theorem dL_law_562 : decode cL_law 562 = .ok (.invokevirtual 78, 3) := by decide +kernel
theorem dL_law_565 : decode cL_law 565 = .ok (.if_icmp .eq 88, 3) := by decide +kernel
theorem dL_law_568 : decode cL_law 568 = .ok (.iconst 0, 1) := by decide +kernel
theorem dL_law_569 : decode cL_law 569 = .ok (.ireturn, 1) := by decide +kernel
theorem dL_law_570 : decode cL_law 570 = .ok (.aload_n 1, 1) := by decide +kernel
theorem dL_law_571 : decode cL_law 571 = .ok (.aload_n 0, 1) := by decide +kernel
theorem dL_law_572 : decode cL_law 572 = .ok (.iload 4, 2) := by decide +kernel
theorem dL_law_574 : decode cL_law 574 = .ok (.iconst 1, 1) := by decide +kernel
theorem dL_law_575 : decode cL_law 575 = .ok (.iadd, 1) := by decide +kernel
theorem dL_law_576 : decode cL_law 576 = .ok (.iaload, 1) := by decide +kernel
theorem dL_law_577 : decode cL_law 577 = .ok (.i2l, 1) := by decide +kernel
theorem dL_law_578 : decode cL_law 578 = .ok (.bipush 32, 2) := by decide +kernel
theorem dL_law_580 : decode cL_law 580 = .ok (.lshl, 1) := by decide +kernel
theorem dL_law_581 : decode cL_law 581 = .ok (.aload_n 0, 1) := by decide +kernel
theorem dL_law_582 : decode cL_law 582 = .ok (.iload 4, 2) := by decide +kernel
theorem dL_law_584 : decode cL_law 584 = .ok (.iconst 2, 1) := by decide +kernel
theorem dL_law_585 : decode cL_law 585 = .ok (.iadd, 1) := by decide +kernel
theorem dL_law_586 : decode cL_law 586 = .ok (.iaload, 1) := by decide +kernel
theorem dL_law_587 : decode cL_law 587 = .ok (.i2l, 1) := by decide +kernel
theorem dL_law_588 : decode cL_law 588 = .ok (.ldc2_w 44, 3) := by decide +kernel
theorem dL_law_591 : decode cL_law 591 = .ok (.land, 1) := by decide +kernel
theorem dL_law_592 : decode cL_law 592 = .ok (.lor, 1) := by decide +kernel
theorem dL_law_593 : decode cL_law 593 = .ok (.invokevirtual 79, 3) := by decide +kernel
theorem dL_law_596 : decode cL_law 596 = .ok (.aload_n 2, 1) := by decide +kernel
theorem dL_law_597 : decode cL_law 597 = .ok (.aload_n 0, 1) := by decide +kernel
theorem dL_law_598 : decode cL_law 598 = .ok (.iload 4, 2) := by decide +kernel
theorem dL_law_600 : decode cL_law 600 = .ok (.iconst 1, 1) := by decide +kernel
theorem dL_law_601 : decode cL_law 601 = .ok (.iadd, 1) := by decide +kernel
theorem dL_law_602 : decode cL_law 602 = .ok (.iaload, 1) := by decide +kernel
theorem dL_law_603 : decode cL_law 603 = .ok (.i2l, 1) := by decide +kernel
theorem dL_law_604 : decode cL_law 604 = .ok (.bipush 32, 2) := by decide +kernel
theorem dL_law_606 : decode cL_law 606 = .ok (.lshl, 1) := by decide +kernel
theorem dL_law_607 : decode cL_law 607 = .ok (.aload_n 0, 1) := by decide +kernel
theorem dL_law_608 : decode cL_law 608 = .ok (.iload 4, 2) := by decide +kernel
theorem dL_law_610 : decode cL_law 610 = .ok (.iconst 2, 1) := by decide +kernel
theorem dL_law_611 : decode cL_law 611 = .ok (.iadd, 1) := by decide +kernel
theorem dL_law_612 : decode cL_law 612 = .ok (.iaload, 1) := by decide +kernel
theorem dL_law_613 : decode cL_law 613 = .ok (.i2l, 1) := by decide +kernel
theorem dL_law_614 : decode cL_law 614 = .ok (.ldc2_w 44, 3) := by decide +kernel
theorem dL_law_617 : decode cL_law 617 = .ok (.land, 1) := by decide +kernel
theorem dL_law_618 : decode cL_law 618 = .ok (.lor, 1) := by decide +kernel
theorem dL_law_619 : decode cL_law 619 = .ok (.invokevirtual 83, 3) := by decide +kernel
theorem dL_law_622 : decode cL_law 622 = .ok (.if_icmp .eq 31, 3) := by decide +kernel
theorem dL_law_625 : decode cL_law 625 = .ok (.iconst 0, 1) := by decide +kernel
theorem dL_law_626 : decode cL_law 626 = .ok (.ireturn, 1) := by decide +kernel
theorem dL_law_627 : decode cL_law 627 = .ok (.aload_n 1, 1) := by decide +kernel
theorem dL_law_628 : decode cL_law 628 = .ok (.aload_n 0, 1) := by decide +kernel
theorem dL_law_629 : decode cL_law 629 = .ok (.iload 4, 2) := by decide +kernel
theorem dL_law_631 : decode cL_law 631 = .ok (.iconst 1, 1) := by decide +kernel
theorem dL_law_632 : decode cL_law 632 = .ok (.iadd, 1) := by decide +kernel
theorem dL_law_633 : decode cL_law 633 = .ok (.iaload, 1) := by decide +kernel
theorem dL_law_634 : decode cL_law 634 = .ok (.invokevirtual 84, 3) := by decide +kernel
theorem dL_law_637 : decode cL_law 637 = .ok (.aload_n 2, 1) := by decide +kernel
theorem dL_law_638 : decode cL_law 638 = .ok (.aload_n 0, 1) := by decide +kernel
theorem dL_law_639 : decode cL_law 639 = .ok (.iload 4, 2) := by decide +kernel
theorem dL_law_641 : decode cL_law 641 = .ok (.iconst 1, 1) := by decide +kernel
theorem dL_law_642 : decode cL_law 642 = .ok (.iadd, 1) := by decide +kernel
theorem dL_law_643 : decode cL_law 643 = .ok (.iaload, 1) := by decide +kernel
theorem dL_law_644 : decode cL_law 644 = .ok (.invokevirtual 88, 3) := by decide +kernel
theorem dL_law_647 : decode cL_law 647 = .ok (.lcmp, 1) := by decide +kernel
theorem dL_law_648 : decode cL_law 648 = .ok (.ifCond .eq 5, 3) := by decide +kernel
theorem dL_law_651 : decode cL_law 651 = .ok (.iconst 0, 1) := by decide +kernel
theorem dL_law_652 : decode cL_law 652 = .ok (.ireturn, 1) := by decide +kernel
theorem dL_law_653 : decode cL_law 653 = .ok (.iinc 4 5, 3) := by decide +kernel
theorem dL_law_656 : decode cL_law 656 = .ok (.goto (-633), 3) := by decide +kernel
theorem dL_law_659 : decode cL_law 659 = .ok (.iconst 1, 1) := by decide +kernel
theorem dL_law_660 : decode cL_law 660 = .ok (.ireturn, 1) := by decide +kernel
end
section
/-! THE LOGICAL MACHINE. A run is told over a logical heap h (a list of cells; a reference is a place in it; place 0 stands for the script), and judged by z_V; one row an instruction, each out of the kit's own row. A contract is z_M: arguments, heap before, and what holds of answer and heap behind. -/
abbrev z_E : Type := (Nat × vp_A) ⊕ (Nat × List Value)
abbrev z_H : Type := List z_E
/-- class numbers and slots, array classes, the script's cell, the first address of ours -/
abbrev z_G : Type := va_G × (Nat → ClassId) × Nat × Nat
def z_ad (G : z_G) (k : Nat) : Nat := match k with
  | 0 => G.2.2.1
  | k + 1 => G.2.2.2 + k
def z_v (G : z_G) (v : Value) : Value := match v with
  | .ref k => .ref (z_ad G k)
  | v => v
def z_o (G : z_G) (a : vp_A) : vp_A := match a with
  | (n, .inr (.inr (.inr (.inr f)))) => (n, .inr (.inr (.inr (.inr (fun j => (f j).map (z_ad G))))))
  | a => a
def z_c (G : z_G) (e : z_E) : va_E := match e with
  | .inl (k, a) => .inl (G.2.1 k, z_o G a)
  | .inr (ci, fs) => .inr (ci, fs.map (z_v G))
def z_ws (G : z_G) (h : z_H) : va_W := (h.drop 1).mapIdx (fun k e => (G.2.2.2 + k, z_c G e))
def z_A (G : z_G) : Nat → Prop := fun q => G.2.2.2 ≤ q
def z_tys (G : z_G) (ats : List FieldType) : List (ClassId × FieldType) := ats.mapIdx (fun k t => (G.2.1 k, t))
theorem z_v_cat (G : z_G) (v : Value) : (z_v G v).category = v.category := by cases v <;> rfl
theorem z_cats (G : z_G) (st : List Value) : ((st.map (z_v G)).map fun v => v.category) = st.map fun v => v.category := by
  rw [List.map_map]
  exact List.map_congr_left (fun v _ => z_v_cat G v)
theorem z_ws_at {G : z_G} {h : z_H} {k : Nat} {e : z_E} (he : h[k + 1]? = some e) : (z_ws G h)[k]? = some (z_ad G (k + 1), z_c G e) := by
  unfold z_ws
  rw [List.getElem?_mapIdx, List.getElem?_drop, Nat.add_comm 1 k, he]
  rfl
theorem z_ws_set (G : z_G) (h : z_H) (k : Nat) (e : z_E) : z_ws G (h.set (k + 1) e) = (z_ws G h).set k (z_ad G (k + 1), z_c G e) := by
  apply List.ext_getElem?
  intro i
  unfold z_ws
  simp only [List.getElem?_set, List.getElem?_mapIdx, List.getElem?_drop, List.length_mapIdx, List.length_drop]
  by_cases hi : k = i
  · subst hi
    by_cases hl : k + 1 < h.length
    · have h1 : k < h.length - 1 := by omega
      have h2 : 1 + k < h.length := by omega
      simp [Nat.add_comm 1 k, hl, h1, z_ad]
    · have h1 : ¬ k < h.length - 1 := by omega
      simp [Nat.add_comm 1 k, hl, h1]
  · have h1 : ¬ k + 1 = 1 + i := by omega
    simp [hi, h1]
theorem z_ws_push (G : z_G) (h : z_H) (e : z_E) (h1 : 1 ≤ h.length) : z_ws G (h ++ [e]) = z_ws G h ++ [(z_ad G h.length, z_c G e)] := by
  cases h with
  | nil => simp at h1
  | cons x t =>
    simp only [z_ws, List.cons_append, List.drop_succ_cons, List.drop_zero, List.length_cons, z_ad]
    rw [List.mapIdx_append]
    simp
theorem z_D (G : z_G) (h : z_H) : va_D (z_A G) (z_ws G h) := by
  have key : ∀ (i : Nat) (p : Nat × va_E), (z_ws G h)[i]? = some p → p.1 = G.2.2.2 + i := by
    intro i p hi
    unfold z_ws at hi
    rw [List.getElem?_mapIdx] at hi
    cases hq : (h.drop 1)[i]? with
    | none => rw [hq] at hi; cases hi
    | some x => rw [hq] at hi; cases hi; rfl
  refine ⟨fun i j p q hi hj hpq => ?_, fun k q hk => ?_⟩
  · have a := key i p hi
    have b := key j q hj
    omega
  · show G.2.2.2 ≤ q.1
    rw [key k q hk]
    omega
/-- the heap holds h -/
def z_R (cl : List vw_C) (G : z_G) (h : z_H) (H : Heap) : Prop := h[0]? = some (.inr (cl.length, [])) ∧ H.size + 1 = G.2.2.2 + h.length ∧ va_P G.1 cl (z_ws G h) H
theorem z_R.pos {cl : List vw_C} {G : z_G} {h : z_H} {H : Heap} (r : z_R cl G h H) : 1 ≤ h.length := by
  have := (List.getElem?_eq_some_iff.mp r.1).1
  omega
theorem z_R.obj {cl : List vw_C} {G : z_G} {h : z_H} {H : Heap} (r : z_R cl G h H) {k ci : Nat} {fs : List Value} {q : vw_C} (hk : h[k]? = some (.inr (ci, fs))) (hc : cl[ci]? = some q) : ∃ j, k = j + 1 := by
  cases k with
  | succ j => exact ⟨j, rfl⟩
  | zero =>
    rw [r.1] at hk
    have h1 : cl.length = ci := by injection hk with hk; injection hk with hk; injection hk
    rw [← h1] at hc
    simp at hc
theorem z_R.arr {cl : List vw_C} {G : z_G} {h : z_H} {H : Heap} (r : z_R cl G h H) {k : Nat} {a : Nat × vp_A} (hk : h[k]? = some (.inl a)) : ∃ j, k = j + 1 := by
  cases k with
  | succ j => exact ⟨j, rfl⟩
  | zero => rw [r.1] at hk; cases hk
def z_U (cl : List vw_C) (ats : List FieldType) (nw : State → Prop) (G : z_G) (h : z_H) (U : State) : Prop := z_R cl G h U.heap ∧ va_K G.1 cl (z_tys G ats) U ∧ nw U
def z_Q (cl : List vw_C) (ats : List FieldType) (nw : State → Prop) (G : z_G) (Q : Option Value → z_H → Prop) : Array Value → State → Outcome → State → Prop := fun _ st oc t => (∃ (r : Option Value) (h' : z_H), oc = .returned (r.map (z_v G)) ∧ Q r h' ∧ z_R cl G h' t.heap) ∧ va_F (z_A G) st t
def z_rm (rk mc ms : Nat) : Room := { frames := rk, cells := mc, slots := ms, locals := 40 * rk }
/-- the method under way: machine, room, entry state, frame, code -/
abbrev z_X : Type := Program × Launch × Env × Room × State × MethodId × Array Value × List Frame × Method × Code
abbrev z_Xs (X : z_X) : State := X.2.2.2.2.1
abbrev z_Xm (X : z_X) : MethodId := X.2.2.2.2.2.1
abbrev z_Xa (X : z_X) : Array Value := X.2.2.2.2.2.2.1
abbrev z_W (X : z_X) (H : Heap) (locs : List Loc) (cells slots : Nat) (Q : State → Prop) (g : JFrame) : Prop :=
  W X.1 X.2.1 X.2.2.1 X.2.2.2.1 X.2.2.2.2.1 X.2.2.2.2.2.1 X.2.2.2.2.2.2.1 X.2.2.2.2.2.2.2.1 X.2.2.2.2.2.2.2.2.1 X.2.2.2.2.2.2.2.2.2 H locs cells slots Q g
/-- what is known of it throughout -/
def z_F (cl : List vw_C) (ats : List FieldType) (nw : State → Prop) (TB : List Cond) (G : z_G) (own : String) (cc : ByteArray) (nL : Nat) (R0 : Room) (X : z_X) : Prop :=
  X.1.tables.exec = Jvm.exec ∧ X.2.2.2.2.2.2.2.2.2.code = cc ∧ X.2.2.2.2.2.2.2.2.2.maxLocals = nL ∧ X.2.2.2.2.1.vm.findClass own = some X.2.2.2.2.2.1.cls ∧ (∀ w ∈ TB, w.before X.2.2.2.2.2.2.1 X.2.2.2.2.1 = true) ∧ va_K G.1 cl (z_tys G ats) X.2.2.2.2.1 ∧ nw X.2.2.2.2.1 ∧ G.2.2.2 ≤ X.2.2.2.2.1.heap.size ∧ X.2.2.2.1 = R0 ∧ X.2.2.2.2.2.2.2.2.1.locks = false
theorem z_F.own {cl : List vw_C} {ats : List FieldType} {nw : State → Prop} {TB : List Cond} {G : z_G} {own : String} {cc : ByteArray} {nL : Nat} {R0 : Room} {X : z_X} (F : z_F cl ats nw TB G own cc nL R0 X) : X.2.2.2.2.1.vm.findClass own = some X.2.2.2.2.2.1.cls := F.2.2.2.1
theorem z_F.wd {cl : List vw_C} {ats : List FieldType} {nw : State → Prop} {TB : List Cond} {G : z_G} {own : String} {cc : ByteArray} {nL : Nat} {R0 : Room} {X : z_X} (F : z_F cl ats nw TB G own cc nL R0 X) : ∀ w ∈ TB, w.before X.2.2.2.2.2.2.1 X.2.2.2.2.1 = true := F.2.2.2.2.1
theorem z_F.kn {cl : List vw_C} {ats : List FieldType} {nw : State → Prop} {TB : List Cond} {G : z_G} {own : String} {cc : ByteArray} {nL : Nat} {R0 : Room} {X : z_X} (F : z_F cl ats nw TB G own cc nL R0 X) : va_K G.1 cl (z_tys G ats) X.2.2.2.2.1 := F.2.2.2.2.2.1
theorem z_F.nws {cl : List vw_C} {ats : List FieldType} {nw : State → Prop} {TB : List Cond} {G : z_G} {own : String} {cc : ByteArray} {nL : Nat} {R0 : Room} {X : z_X} (F : z_F cl ats nw TB G own cc nL R0 X) : nw X.2.2.2.2.1 := F.2.2.2.2.2.2.1
theorem z_F.base {cl : List vw_C} {ats : List FieldType} {nw : State → Prop} {TB : List Cond} {G : z_G} {own : String} {cc : ByteArray} {nL : Nat} {R0 : Room} {X : z_X} (F : z_F cl ats nw TB G own cc nL R0 X) : G.2.2.2 ≤ X.2.2.2.2.1.heap.size := F.2.2.2.2.2.2.2.1
theorem z_F.room {cl : List vw_C} {ats : List FieldType} {nw : State → Prop} {TB : List Cond} {G : z_G} {own : String} {cc : ByteArray} {nL : Nat} {R0 : Room} {X : z_X} (F : z_F cl ats nw TB G own cc nL R0 X) : X.2.2.2.1 = R0 := F.2.2.2.2.2.2.2.2.1
theorem z_F.lock {cl : List vw_C} {ats : List FieldType} {nw : State → Prop} {TB : List Cond} {G : z_G} {own : String} {cc : ByteArray} {nL : Nat} {R0 : Room} {X : z_X} (F : z_F cl ats nw TB G own cc nL R0 X) : X.2.2.2.2.2.2.2.2.1.locks = false := F.2.2.2.2.2.2.2.2.2
/-- locals: a list of places and values, in the order of the places -/
def z_lv (G : z_G) (lv : List (Nat × Value)) : List (Nat × Value) := lv.map (fun q => (q.1, z_v G q.2))
def z_at : List (Nat × Value) → Nat → Option Value
  | [], _ => none
  | (j, v) :: r, i => match Nat.beq j i with
    | true => some v
    | false => z_at r i
def z_ins (i : Nat) (v : Value) : List (Nat × Value) → List (Nat × Value)
  | [] => [(i, v)]
  | (j, w) :: r => match Nat.ble i j with
    | true => (i, v) :: (j, w) :: r
    | false => (j, w) :: z_ins i v r
def z_fl1 (i : Nat) : List (Nat × Value) → List (Nat × Value)
  | [] => []
  | (j, w) :: r => match Nat.beq j i || (Nat.beq (j + 1) i && Nat.beq w.category 2) with
    | true => z_fl1 i r
    | false => (j, w) :: z_fl1 i r
def z_st (lv : List (Nat × Value)) (i : Nat) (v : Value) : List (Nat × Value) := match Nat.beq v.category 2 with
  | true => z_ins i v (z_fl1 i (z_fl1 (i + 1) lv))
  | false => z_ins i v (z_fl1 i lv)
theorem z_at_mem : ∀ {lv : List (Nat × Value)} {i : Nat} {v : Value}, z_at lv i = some v → (i, v) ∈ lv
  | [], i, v, h => by cases h
  | (j, w) :: r, i, v, h => by
    unfold z_at at h
    split at h
    · rename_i hb
      have := Nat.eq_of_beq_eq_true hb
      subst this
      cases h
      exact List.mem_cons_self
    · exact List.mem_cons_of_mem _ (z_at_mem h)
theorem z_ins_mem {i : Nat} {v : Value} : ∀ {l : List (Nat × Value)} {q : Nat × Value}, q ∈ z_ins i v l → q = (i, v) ∨ q ∈ l
  | [], q, h => by
    simp [z_ins] at h
    exact Or.inl h
  | (j, w) :: r, q, h => by
    unfold z_ins at h
    split at h
    · rcases List.mem_cons.mp h with h | h
      · exact Or.inl h
      · exact Or.inr h
    · rcases List.mem_cons.mp h with h | h
      · exact Or.inr (by rw [h]; exact List.mem_cons_self)
      · rcases z_ins_mem h with h | h
        · exact Or.inl h
        · exact Or.inr (List.mem_cons_of_mem _ h)
theorem z_fl1_mem {i : Nat} : ∀ {l : List (Nat × Value)} {q : Nat × Value}, q ∈ z_fl1 i l → q ∈ l ∧ ¬ q.1 = i ∧ ¬ (q.1 + 1 = i ∧ q.2.category = 2)
  | [], q, h => by cases h
  | (j, w) :: r, q, h => by
    unfold z_fl1 at h
    split at h
    · have := z_fl1_mem h
      exact ⟨List.mem_cons_of_mem _ this.1, this.2⟩
    · rename_i hb
      rcases List.mem_cons.mp h with h | h
      · subst h
        refine ⟨List.mem_cons_self, fun e => ?_, fun e => ?_⟩
        · have e : j = i := e
          subst e
          simp at hb
        · have e1 : j + 1 = i := e.1
          have e2 : w.category = 2 := e.2
          subst e1
          simp [e2] at hb
      · have := z_fl1_mem h
        exact ⟨List.mem_cons_of_mem _ this.1, this.2⟩
theorem z_atL {G : z_G} {ls : Array Slot} {nL : Nat} {lv : List (Nat × Value)} {i : Nat} {v : Value} (d : lv_has ls nL (z_lv G lv)) (h : z_at lv i = some v) : ls[i]? = some (.val (z_v G v)) :=
  d.2.2 (i, z_v G v) (List.mem_map.mpr ⟨(i, v), z_at_mem h, rfl⟩)
theorem z_atI {G : z_G} {lv : List (Nat × Value)} {i : Nat} {v : Value} (h : z_at lv i = some v) : ∃ j : Nat, (z_lv G lv)[j]? = some (i, z_v G v) :=
  List.getElem?_of_mem (List.mem_map.mpr ⟨(i, v), z_at_mem h, rfl⟩)
theorem z_st1 {G : z_G} {ls : Array Slot} {nL : Nat} {lv : List (Nat × Value)} {i : Nat} {v w : Value} (d : lv_has ls nL ((i, w) :: (z_lv G lv).filter (fun q => !(q.1 == i) && !(q.1 + 1 == i && q.2.category == 2)))) (hw : z_v G v = w) (hc : v.category = 1) : lv_has ls nL (z_lv G (z_st lv i v)) := by
  subst hw
  refine ⟨d.1, d.2.1, fun q hq => d.2.2 q ?_⟩
  obtain ⟨q0, h1, rfl⟩ := List.mem_map.mp hq
  unfold z_st at h1
  rw [hc] at h1
  rcases z_ins_mem h1 with h | h
  · rw [h]; exact List.mem_cons_self
  · obtain ⟨h2, h3, h4⟩ := z_fl1_mem h
    refine List.mem_cons_of_mem _ (List.mem_filter.mpr ⟨List.mem_map.mpr ⟨q0, h2, rfl⟩, ?_⟩)
    simp only [z_v_cat]
    simp only [Bool.and_eq_true, Bool.not_eq_true', beq_eq_false_iff_ne, Bool.and_eq_false_imp, beq_iff_eq]
    exact ⟨h3, fun e1 e2 => h4 ⟨e1, e2⟩⟩
theorem z_st2 {G : z_G} {ls : Array Slot} {nL : Nat} {lv : List (Nat × Value)} {i : Nat} {v w : Value} (d : lv_has ls nL ((i, w) :: (z_lv G lv).filter (fun q => !(q.1 == i) && (!(q.1 == i + 1) && !(q.1 + 1 == i && q.2.category == 2))))) (hw : z_v G v = w) (hc : v.category = 2) : lv_has ls nL (z_lv G (z_st lv i v)) := by
  subst hw
  refine ⟨d.1, d.2.1, fun q hq => d.2.2 q ?_⟩
  obtain ⟨q0, h1, rfl⟩ := List.mem_map.mp hq
  unfold z_st at h1
  rw [hc] at h1
  rcases z_ins_mem h1 with h | h
  · rw [h]; exact List.mem_cons_self
  · obtain ⟨h2, h3, h4⟩ := z_fl1_mem h
    obtain ⟨h5, h6, h7⟩ := z_fl1_mem h2
    refine List.mem_cons_of_mem _ (List.mem_filter.mpr ⟨List.mem_map.mpr ⟨q0, h5, rfl⟩, ?_⟩)
    simp only [z_v_cat]
    simp only [Bool.and_eq_true, Bool.not_eq_true', beq_eq_false_iff_ne, Bool.and_eq_false_imp, beq_iff_eq]
    exact ⟨h3, h6, fun e1 e2 => h4 ⟨e1, e2⟩⟩
def z_isR (v : Value) : Bool := match v with
  | .null => true
  | .ref _ => true
  | _ => false
/-- from here the run ends in Q -/
def z_V (cl : List vw_C) (G : z_G) (nL : Nat) (X : z_X) (Q : State → Prop) (cells slots pc : Nat) (lv : List (Nat × Value)) (st : List Value) (h : z_H) : Prop :=
  ∀ (H : Heap) (locs : List Loc) (ls : Array Slot), z_R cl G h H → va_S (z_A G) X.2.2.2.2.1.heap H locs → lv_has ls nL (z_lv G lv) → z_W X H locs cells slots Q (F0 X.2.2.2.2.2.1 pc ls (st.map (z_v G)))
end
section
section ZR
variable {cl : List vw_C} {ats : List FieldType} {nw : State → Prop} {TB : List Cond} {G : z_G} {own : String} {cc : ByteArray} {nL : Nat} {R0 : Room} {X : z_X} {Q : State → Prop} {cells slots pc : Nat} {lv : List (Nat × Value)} {st : List Value} {h : z_H}
theorem z_iconst (F : z_F cl ats nw TB G own cc nL R0 X) {n : Int} {v : Int32} (hd : decode cc pc = .ok (.iconst n, 1)) (hv : Int32.ofInt n = v) (k : z_V cl G nL X Q cells slots (pc + 1) lv (.int v :: st) h) : z_V cl G nL X Q cells slots pc lv (st) h :=
  fun H locs ls a b d => lv_iconst F.1 F.2.1 hd hv (k H locs ls a b d)
theorem z_bipush (F : z_F cl ats nw TB G own cc nL R0 X) {n : Int} {v : Int32} (hd : decode cc pc = .ok (.bipush n, 2)) (hv : (Int8.ofInt n).toInt32 = v) (k : z_V cl G nL X Q cells slots (pc + 2) lv (.int v :: st) h) : z_V cl G nL X Q cells slots pc lv (st) h :=
  fun H locs ls a b d => lv_bipush F.1 F.2.1 hd hv (k H locs ls a b d)
theorem z_sipush (F : z_F cl ats nw TB G own cc nL R0 X) {n : Int} {v : Int32} (hd : decode cc pc = .ok (.sipush n, 3)) (hv : (Int16.ofInt n).toInt32 = v) (k : z_V cl G nL X Q cells slots (pc + 3) lv (.int v :: st) h) : z_V cl G nL X Q cells slots pc lv (st) h :=
  fun H locs ls a b d => lv_sipush F.1 F.2.1 hd hv (k H locs ls a b d)
theorem z_lconst (F : z_F cl ats nw TB G own cc nL R0 X) {n : Fin 2} {v : Int64} (hd : decode cc pc = .ok (.lconst n, 1)) (hv : Int64.ofNat (n : Nat) = v) (k : z_V cl G nL X Q cells slots (pc + 1) lv (.long v :: st) h) : z_V cl G nL X Q cells slots pc lv (st) h :=
  fun H locs ls a b d => lv_lconst F.1 F.2.1 hd hv (k H locs ls a b d)
theorem z_null (F : z_F cl ats nw TB G own cc nL R0 X) (hd : decode cc pc = .ok (.aconst_null, 1)) (k : z_V cl G nL X Q cells slots (pc + 1) lv (.null :: st) h) : z_V cl G nL X Q cells slots pc lv (st) h :=
  fun H locs ls a b d => lv_null F.1 F.2.1 hd (k H locs ls a b d)
theorem z_ldc (F : z_F cl ats nw TB G own cc nL R0 X) {idx : Nat} {v : Int32} (hw : Cond.constant own idx v ∈ TB) (hd : decode cc pc = .ok (.ldc idx, 2)) (k : z_V cl G nL X Q cells slots (pc + 2) lv (.int v :: st) h) : z_V cl G nL X Q cells slots pc lv st h :=
  fun H locs ls a b d => lv_ldc F.1 F.2.1 F.own (F.wd _ hw) hd (k H locs ls a b d)
theorem z_ldc2 (F : z_F cl ats nw TB G own cc nL R0 X) {idx : Nat} {v : Int64} (hw : Cond.constantLong own idx v ∈ TB) (hd : decode cc pc = .ok (.ldc2_w idx, 3)) (k : z_V cl G nL X Q cells slots (pc + 3) lv (.long v :: st) h) : z_V cl G nL X Q cells slots pc lv st h :=
  fun H locs ls a b d => lv_ldc2 F.1 F.2.1 F.own (F.wd _ hw) hd (k H locs ls a b d)
theorem z_iload_n (F : z_F cl ats nw TB G own cc nL R0 X) {n : Fin 4} {x : Int32} (hd : decode cc pc = .ok (.iload_n n, 1)) (hl : z_at lv n = some (.int x)) (k : z_V cl G nL X Q cells slots (pc + 1) lv (.int x :: st) h) : z_V cl G nL X Q cells slots pc lv st h :=
  fun H locs ls a b d => lv_iload_n F.1 F.2.1 hd rfl (z_atL d hl) (k H locs ls a b d)
theorem z_iload (F : z_F cl ats nw TB G own cc nL R0 X) {n : Nat} {x : Int32} (hd : decode cc pc = .ok (.iload n, 2)) (hl : z_at lv n = some (.int x)) (k : z_V cl G nL X Q cells slots (pc + 2) lv (.int x :: st) h) : z_V cl G nL X Q cells slots pc lv st h :=
  fun H locs ls a b d => lv_iload F.1 F.2.1 hd (z_atL d hl) (k H locs ls a b d)
theorem z_lload_n (F : z_F cl ats nw TB G own cc nL R0 X) {n : Fin 4} {x : Int64} (hd : decode cc pc = .ok (.lload_n n, 1)) (hl : z_at lv n = some (.long x)) (k : z_V cl G nL X Q cells slots (pc + 1) lv (.long x :: st) h) : z_V cl G nL X Q cells slots pc lv st h :=
  fun H locs ls a b d => lv_lload_n F.1 F.2.1 hd rfl (z_atL d hl) (k H locs ls a b d)
theorem z_lload (F : z_F cl ats nw TB G own cc nL R0 X) {n : Nat} {x : Int64} (hd : decode cc pc = .ok (.lload n, 2)) (hl : z_at lv n = some (.long x)) (k : z_V cl G nL X Q cells slots (pc + 2) lv (.long x :: st) h) : z_V cl G nL X Q cells slots pc lv st h :=
  fun H locs ls a b d => lv_lload F.1 F.2.1 hd (z_atL d hl) (k H locs ls a b d)
theorem z_aload_n (F : z_F cl ats nw TB G own cc nL R0 X) {n : Fin 4} {v : Value} (hd : decode cc pc = .ok (.aload_n n, 1)) (hl : z_at lv n = some v) (hv : z_isR v = true) (k : z_V cl G nL X Q cells slots (pc + 1) lv (v :: st) h) : z_V cl G nL X Q cells slots pc lv st h :=
  fun H locs ls a b d => by
    cases v <;> first | exact Bool.noConfusion (show false = true from hv) | exact lv_aload_n F.1 F.2.1 hd rfl (z_atL d hl) (k H locs ls a b d) | exact lv_aload_nN F.1 F.2.1 hd rfl (z_atL d hl) (k H locs ls a b d)
theorem z_aload (F : z_F cl ats nw TB G own cc nL R0 X) {n : Nat} {v : Value} (hd : decode cc pc = .ok (.aload n, 2)) (hl : z_at lv n = some v) (hv : z_isR v = true) (k : z_V cl G nL X Q cells slots (pc + 2) lv (v :: st) h) : z_V cl G nL X Q cells slots pc lv st h :=
  fun H locs ls a b d => by
    cases v <;> first | exact Bool.noConfusion (show false = true from hv) | exact lv_aload F.1 F.2.1 hd (z_atL d hl) (k H locs ls a b d) | exact lv_aloadN F.1 F.2.1 hd (z_atL d hl) (k H locs ls a b d)
theorem z_istore_n (F : z_F cl ats nw TB G own cc nL R0 X) {n : Fin 4} {x : Int32} (hd : decode cc pc = .ok (.istore_n n, 1)) (hn : (n : Nat) < nL) (k : z_V cl G nL X Q cells slots (pc + 1) (z_st lv n (.int x)) st h) : z_V cl G nL X Q cells slots pc lv (.int x :: st) h :=
  fun H locs ls a b d => lv_istore_n F.1 F.2.1 hd rfl d hn rfl (fun ls' d' => k H locs ls' a b (z_st1 d' rfl rfl))
theorem z_lstore_n (F : z_F cl ats nw TB G own cc nL R0 X) {n : Fin 4} {x : Int64} (hd : decode cc pc = .ok (.lstore_n n, 1)) (hn : (n : Nat) + 1 < nL) (k : z_V cl G nL X Q cells slots (pc + 1) (z_st lv n (.long x)) st h) : z_V cl G nL X Q cells slots pc lv (.long x :: st) h :=
  fun H locs ls a b d => lv_lstore_n F.1 F.2.1 hd rfl d hn rfl (fun ls' d' => k H locs ls' a b (z_st2 d' rfl rfl))
theorem z_astore_n (F : z_F cl ats nw TB G own cc nL R0 X) {n : Fin 4} {v : Value} (hd : decode cc pc = .ok (.astore_n n, 1)) (hv : z_isR v = true) (hn : (n : Nat) < nL) (k : z_V cl G nL X Q cells slots (pc + 1) (z_st lv n v) st h) : z_V cl G nL X Q cells slots pc lv (v :: st) h :=
  fun H locs ls a b d => by
    cases v <;> first | exact Bool.noConfusion (show false = true from hv) | exact lv_astore_n F.1 F.2.1 hd rfl d hn rfl (fun ls' d' => k H locs ls' a b (z_st1 d' rfl rfl)) | exact lv_astore_nN F.1 F.2.1 hd rfl d hn rfl (fun ls' d' => k H locs ls' a b (z_st1 d' rfl rfl))
theorem z_istore (F : z_F cl ats nw TB G own cc nL R0 X) {n : Nat} {x : Int32} (hd : decode cc pc = .ok (.istore n, 2)) (hn : (n : Nat) < nL) (k : z_V cl G nL X Q cells slots (pc + 2) (z_st lv n (.int x)) st h) : z_V cl G nL X Q cells slots pc lv (.int x :: st) h :=
  fun H locs ls a b d => lv_istore F.1 F.2.1 hd d hn rfl (fun ls' d' => k H locs ls' a b (z_st1 d' rfl rfl))
theorem z_lstore (F : z_F cl ats nw TB G own cc nL R0 X) {n : Nat} {x : Int64} (hd : decode cc pc = .ok (.lstore n, 2)) (hn : (n : Nat) + 1 < nL) (k : z_V cl G nL X Q cells slots (pc + 2) (z_st lv n (.long x)) st h) : z_V cl G nL X Q cells slots pc lv (.long x :: st) h :=
  fun H locs ls a b d => lv_lstore F.1 F.2.1 hd d hn rfl (fun ls' d' => k H locs ls' a b (z_st2 d' rfl rfl))
theorem z_astore (F : z_F cl ats nw TB G own cc nL R0 X) {n : Nat} {v : Value} (hd : decode cc pc = .ok (.astore n, 2)) (hv : z_isR v = true) (hn : (n : Nat) < nL) (k : z_V cl G nL X Q cells slots (pc + 2) (z_st lv n v) st h) : z_V cl G nL X Q cells slots pc lv (v :: st) h :=
  fun H locs ls a b d => by
    cases v <;> first | exact Bool.noConfusion (show false = true from hv) | exact lv_astore F.1 F.2.1 hd d hn rfl (fun ls' d' => k H locs ls' a b (z_st1 d' rfl rfl)) | exact lv_astoreN F.1 F.2.1 hd d hn rfl (fun ls' d' => k H locs ls' a b (z_st1 d' rfl rfl))
theorem z_iinc (F : z_F cl ats nw TB G own cc nL R0 X) {i : Nat} {n : Int} {x w : Int32} (hd : decode cc pc = .ok (.iinc i n, 3)) (hl : z_at lv i = some (.int x)) (hv : Int32.ofInt n = w) (hn : i < nL) (k : z_V cl G nL X Q cells slots (pc + 3) (z_st lv i (.int (x + w))) st h) : z_V cl G nL X Q cells slots pc lv st h :=
  fun H locs ls a b d => by
    subst hv
    obtain ⟨j, hj⟩ := z_atI (G := G) hl
    exact lv_iinc F.1 F.2.1 hd d hj rfl hn rfl (fun ls' d' => k H locs ls' a b (z_st1 d' rfl rfl))
theorem z_iadd (F : z_F cl ats nw TB G own cc nL R0 X) {x y : Int32} (hd : decode cc pc = .ok (.iadd, 1)) (k : z_V cl G nL X Q cells slots (pc + 1) lv (.int (x + y) :: st) h) : z_V cl G nL X Q cells slots pc lv (.int y :: .int x :: st) h :=
  fun H locs ls a b d => lv_iadd F.1 F.2.1 hd (k H locs ls a b d)
theorem z_isub (F : z_F cl ats nw TB G own cc nL R0 X) {x y : Int32} (hd : decode cc pc = .ok (.isub, 1)) (k : z_V cl G nL X Q cells slots (pc + 1) lv (.int (x - y) :: st) h) : z_V cl G nL X Q cells slots pc lv (.int y :: .int x :: st) h :=
  fun H locs ls a b d => lv_isub F.1 F.2.1 hd (k H locs ls a b d)
theorem z_imul (F : z_F cl ats nw TB G own cc nL R0 X) {x y : Int32} (hd : decode cc pc = .ok (.imul, 1)) (k : z_V cl G nL X Q cells slots (pc + 1) lv (.int (x * y) :: st) h) : z_V cl G nL X Q cells slots pc lv (.int y :: .int x :: st) h :=
  fun H locs ls a b d => lv_imul F.1 F.2.1 hd (k H locs ls a b d)
theorem z_iand (F : z_F cl ats nw TB G own cc nL R0 X) {x y : Int32} (hd : decode cc pc = .ok (.iand, 1)) (k : z_V cl G nL X Q cells slots (pc + 1) lv (.int (x &&& y) :: st) h) : z_V cl G nL X Q cells slots pc lv (.int y :: .int x :: st) h :=
  fun H locs ls a b d => lv_iand F.1 F.2.1 hd (k H locs ls a b d)
theorem z_ior (F : z_F cl ats nw TB G own cc nL R0 X) {x y : Int32} (hd : decode cc pc = .ok (.ior, 1)) (k : z_V cl G nL X Q cells slots (pc + 1) lv (.int (x ||| y) :: st) h) : z_V cl G nL X Q cells slots pc lv (.int y :: .int x :: st) h :=
  fun H locs ls a b d => lv_ior F.1 F.2.1 hd (k H locs ls a b d)
theorem z_ixor (F : z_F cl ats nw TB G own cc nL R0 X) {x y : Int32} (hd : decode cc pc = .ok (.ixor, 1)) (k : z_V cl G nL X Q cells slots (pc + 1) lv (.int (x ^^^ y) :: st) h) : z_V cl G nL X Q cells slots pc lv (.int y :: .int x :: st) h :=
  fun H locs ls a b d => lv_ixor F.1 F.2.1 hd (k H locs ls a b d)
theorem z_ishl (F : z_F cl ats nw TB G own cc nL R0 X) {x y : Int32} (hd : decode cc pc = .ok (.ishl, 1)) (k : z_V cl G nL X Q cells slots (pc + 1) lv (.int (x <<< (y &&& 31)) :: st) h) : z_V cl G nL X Q cells slots pc lv (.int y :: .int x :: st) h :=
  fun H locs ls a b d => lv_ishl F.1 F.2.1 hd (k H locs ls a b d)
theorem z_ishr (F : z_F cl ats nw TB G own cc nL R0 X) {x y : Int32} (hd : decode cc pc = .ok (.ishr, 1)) (k : z_V cl G nL X Q cells slots (pc + 1) lv (.int (x >>> (y &&& 31)) :: st) h) : z_V cl G nL X Q cells slots pc lv (.int y :: .int x :: st) h :=
  fun H locs ls a b d => lv_ishr F.1 F.2.1 hd (k H locs ls a b d)
theorem z_iushr (F : z_F cl ats nw TB G own cc nL R0 X) {x y : Int32} (hd : decode cc pc = .ok (.iushr, 1)) (k : z_V cl G nL X Q cells slots (pc + 1) lv (.int ((x.toUInt32 >>> (y.toUInt32 &&& Int32.toUInt32 31)).toInt32) :: st) h) : z_V cl G nL X Q cells slots pc lv (.int y :: .int x :: st) h :=
  fun H locs ls a b d => lv_iushr F.1 F.2.1 hd rfl (k H locs ls a b d)
theorem z_ladd (F : z_F cl ats nw TB G own cc nL R0 X) {x y : Int64} (hd : decode cc pc = .ok (.ladd, 1)) (k : z_V cl G nL X Q cells slots (pc + 1) lv (.long (x + y) :: st) h) : z_V cl G nL X Q cells slots pc lv (.long y :: .long x :: st) h :=
  fun H locs ls a b d => lv_ladd F.1 F.2.1 hd (k H locs ls a b d)
theorem z_lsub (F : z_F cl ats nw TB G own cc nL R0 X) {x y : Int64} (hd : decode cc pc = .ok (.lsub, 1)) (k : z_V cl G nL X Q cells slots (pc + 1) lv (.long (x - y) :: st) h) : z_V cl G nL X Q cells slots pc lv (.long y :: .long x :: st) h :=
  fun H locs ls a b d => lv_lsub F.1 F.2.1 hd (k H locs ls a b d)
theorem z_lmul (F : z_F cl ats nw TB G own cc nL R0 X) {x y : Int64} (hd : decode cc pc = .ok (.lmul, 1)) (k : z_V cl G nL X Q cells slots (pc + 1) lv (.long (x * y) :: st) h) : z_V cl G nL X Q cells slots pc lv (.long y :: .long x :: st) h :=
  fun H locs ls a b d => lv_lmul F.1 F.2.1 hd (k H locs ls a b d)
theorem z_land (F : z_F cl ats nw TB G own cc nL R0 X) {x y : Int64} (hd : decode cc pc = .ok (.land, 1)) (k : z_V cl G nL X Q cells slots (pc + 1) lv (.long (x &&& y) :: st) h) : z_V cl G nL X Q cells slots pc lv (.long y :: .long x :: st) h :=
  fun H locs ls a b d => lv_land F.1 F.2.1 hd (k H locs ls a b d)
theorem z_lor (F : z_F cl ats nw TB G own cc nL R0 X) {x y : Int64} (hd : decode cc pc = .ok (.lor, 1)) (k : z_V cl G nL X Q cells slots (pc + 1) lv (.long (x ||| y) :: st) h) : z_V cl G nL X Q cells slots pc lv (.long y :: .long x :: st) h :=
  fun H locs ls a b d => lv_lor F.1 F.2.1 hd (k H locs ls a b d)
theorem z_lxor (F : z_F cl ats nw TB G own cc nL R0 X) {x y : Int64} (hd : decode cc pc = .ok (.lxor, 1)) (k : z_V cl G nL X Q cells slots (pc + 1) lv (.long (x ^^^ y) :: st) h) : z_V cl G nL X Q cells slots pc lv (.long y :: .long x :: st) h :=
  fun H locs ls a b d => lv_lxor F.1 F.2.1 hd (k H locs ls a b d)
theorem z_lshl (F : z_F cl ats nw TB G own cc nL R0 X) {x : Int64} {y : Int32} (hd : decode cc pc = .ok (.lshl, 1)) (k : z_V cl G nL X Q cells slots (pc + 1) lv (.long (x <<< (y.toInt64 &&& 63)) :: st) h) : z_V cl G nL X Q cells slots pc lv (.int y :: .long x :: st) h :=
  fun H locs ls a b d => lv_lshl F.1 F.2.1 hd rfl (k H locs ls a b d)
theorem z_lshr (F : z_F cl ats nw TB G own cc nL R0 X) {x : Int64} {y : Int32} (hd : decode cc pc = .ok (.lshr, 1)) (k : z_V cl G nL X Q cells slots (pc + 1) lv (.long (x >>> (y.toInt64 &&& 63)) :: st) h) : z_V cl G nL X Q cells slots pc lv (.int y :: .long x :: st) h :=
  fun H locs ls a b d => lv_lshr F.1 F.2.1 hd rfl (k H locs ls a b d)
theorem z_lushr (F : z_F cl ats nw TB G own cc nL R0 X) {x : Int64} {y : Int32} (hd : decode cc pc = .ok (.lushr, 1)) (k : z_V cl G nL X Q cells slots (pc + 1) lv (.long ((x.toUInt64 >>> (y.toInt64.toUInt64 &&& Int64.toUInt64 63)).toInt64) :: st) h) : z_V cl G nL X Q cells slots pc lv (.int y :: .long x :: st) h :=
  fun H locs ls a b d => lv_lushr F.1 F.2.1 hd rfl (k H locs ls a b d)
theorem z_irem (F : z_F cl ats nw TB G own cc nL R0 X) {x y : Int32} (hd : decode cc pc = .ok (.irem, 1)) (hy : ¬ y = 0) (k : z_V cl G nL X Q cells slots (pc + 1) lv (.int (x - x / y * y) :: st) h) : z_V cl G nL X Q cells slots pc lv (.int y :: .int x :: st) h :=
  fun H locs ls a b d => lv_irem F.1 F.2.1 hd hy (k H locs ls a b d)
theorem z_lcmp (F : z_F cl ats nw TB G own cc nL R0 X) {x y : Int64} (hd : decode cc pc = .ok (.lcmp, 1)) (k : z_V cl G nL X Q cells slots (pc + 1) lv (.int (lg_cmp x y) :: st) h) : z_V cl G nL X Q cells slots pc lv (.long y :: .long x :: st) h :=
  fun H locs ls a b d => W.lcmp F.1 F.2.1 hd (k H locs ls a b d)
theorem z_ineg (F : z_F cl ats nw TB G own cc nL R0 X) {x : Int32} (hd : decode cc pc = .ok (.ineg, 1)) (k : z_V cl G nL X Q cells slots (pc + 1) lv (.int (-x) :: st) h) : z_V cl G nL X Q cells slots pc lv (.int x :: st) h :=
  fun H locs ls a b d => lv_ineg F.1 F.2.1 hd (k H locs ls a b d)
theorem z_lneg (F : z_F cl ats nw TB G own cc nL R0 X) {x : Int64} (hd : decode cc pc = .ok (.lneg, 1)) (k : z_V cl G nL X Q cells slots (pc + 1) lv (.long (-x) :: st) h) : z_V cl G nL X Q cells slots pc lv (.long x :: st) h :=
  fun H locs ls a b d => lv_lneg F.1 F.2.1 hd (k H locs ls a b d)
theorem z_i2l (F : z_F cl ats nw TB G own cc nL R0 X) {x : Int32} (hd : decode cc pc = .ok (.i2l, 1)) (k : z_V cl G nL X Q cells slots (pc + 1) lv (.long x.toInt64 :: st) h) : z_V cl G nL X Q cells slots pc lv (.int x :: st) h :=
  fun H locs ls a b d => lv_i2l F.1 F.2.1 hd rfl (k H locs ls a b d)
theorem z_l2i (F : z_F cl ats nw TB G own cc nL R0 X) {x : Int64} (hd : decode cc pc = .ok (.l2i, 1)) (k : z_V cl G nL X Q cells slots (pc + 1) lv (.int x.toInt32 :: st) h) : z_V cl G nL X Q cells slots pc lv (.long x :: st) h :=
  fun H locs ls a b d => lv_l2i F.1 F.2.1 hd rfl (k H locs ls a b d)
theorem z_i2b (F : z_F cl ats nw TB G own cc nL R0 X) {x : Int32} (hd : decode cc pc = .ok (.i2b, 1)) (k : z_V cl G nL X Q cells slots (pc + 1) lv (.int x.toInt8.toInt32 :: st) h) : z_V cl G nL X Q cells slots pc lv (.int x :: st) h :=
  fun H locs ls a b d => lv_i2b F.1 F.2.1 hd rfl (k H locs ls a b d)
theorem z_dup (F : z_F cl ats nw TB G own cc nL R0 X) {u : Value} (hd : decode cc pc = .ok (.dup, 1)) (hu : u.category = 1) (k : z_V cl G nL X Q cells slots (pc + 1) lv (u :: u :: st) h) : z_V cl G nL X Q cells slots pc lv (u :: st) h :=
  fun H locs ls a b d => lv_dup F.1 F.2.1 hd ((z_v_cat G u).trans hu) (k H locs ls a b d)
theorem z_pop (F : z_F cl ats nw TB G own cc nL R0 X) {u : Value} (hd : decode cc pc = .ok (.pop, 1)) (hu : u.category = 1) (k : z_V cl G nL X Q cells slots (pc + 1) lv (st) h) : z_V cl G nL X Q cells slots pc lv (u :: st) h :=
  fun H locs ls a b d => lv_pop F.1 F.2.1 hd ((z_v_cat G u).trans hu) (k H locs ls a b d)
theorem z_dup_x1 (F : z_F cl ats nw TB G own cc nL R0 X) {u w : Value} (hd : decode cc pc = .ok (.dup_x1, 1)) (hu : u.category = 1) (hw : w.category = 1) (k : z_V cl G nL X Q cells slots (pc + 1) lv (u :: w :: u :: st) h) : z_V cl G nL X Q cells slots pc lv (u :: w :: st) h :=
  fun H locs ls a b d => lv_dup_x1 F.1 F.2.1 hd ((z_v_cat G u).trans hu) ((z_v_cat G w).trans hw) (k H locs ls a b d)
theorem z_dup_x2 (F : z_F cl ats nw TB G own cc nL R0 X) {u w z : Value} (hd : decode cc pc = .ok (.dup_x2, 1)) (hu : u.category = 1) (hw : w.category = 1) (hz : z.category = 1) (k : z_V cl G nL X Q cells slots (pc + 1) lv (u :: w :: z :: u :: st) h) : z_V cl G nL X Q cells slots pc lv (u :: w :: z :: st) h :=
  fun H locs ls a b d => lv_dup_x2 F.1 F.2.1 hd ((z_v_cat G u).trans hu) ((z_v_cat G w).trans hw) ((z_v_cat G z).trans hz) (k H locs ls a b d)
theorem z_dup2 (F : z_F cl ats nw TB G own cc nL R0 X) {u w : Value} (hd : decode cc pc = .ok (.dup2, 1)) (hu : u.category = 1) (hw : w.category = 1) (k : z_V cl G nL X Q cells slots (pc + 1) lv (u :: w :: u :: w :: st) h) : z_V cl G nL X Q cells slots pc lv (u :: w :: st) h :=
  fun H locs ls a b d => lv_dup2_11 F.1 F.2.1 hd ((z_v_cat G u).trans hu) ((z_v_cat G w).trans hw) (k H locs ls a b d)
theorem z_pop2 (F : z_F cl ats nw TB G own cc nL R0 X) {u : Value} (hd : decode cc pc = .ok (.pop2, 1)) (hu : u.category = 2) (k : z_V cl G nL X Q cells slots (pc + 1) lv (st) h) : z_V cl G nL X Q cells slots pc lv (u :: st) h :=
  fun H locs ls a b d => lv_pop2_2 F.1 F.2.1 hd ((z_v_cat G u).trans hu) (k H locs ls a b d)
theorem z_if_eq (F : z_F cl ats nw TB G own cc nL R0 X) {x : Int32} {off : Int} {tgt : Nat} (hd : decode cc pc = .ok (.ifCond .eq off, 3)) (ht : (pc : Int) + off = (tgt : Int)) (kt : x = 0 → z_V cl G nL X Q cells slots tgt lv st h) (kf : ¬ x = 0 → z_V cl G nL X Q cells slots (pc + 3) lv st h) : z_V cl G nL X Q cells slots pc lv (.int x :: st) h :=
  fun H locs ls a b d => lv_if_eq F.1 F.2.1 hd ht (fun q => kt q H locs ls a b d) (fun q => kf q H locs ls a b d)
theorem z_icmp_eq (F : z_F cl ats nw TB G own cc nL R0 X) {x y : Int32} {off : Int} {tgt : Nat} (hd : decode cc pc = .ok (.if_icmp .eq off, 3)) (ht : (pc : Int) + off = (tgt : Int)) (kt : x = y → z_V cl G nL X Q cells slots tgt lv st h) (kf : ¬ x = y → z_V cl G nL X Q cells slots (pc + 3) lv st h) : z_V cl G nL X Q cells slots pc lv (.int y :: .int x :: st) h :=
  fun H locs ls a b d => lv_icmp_eq F.1 F.2.1 hd ht (fun q => kt q H locs ls a b d) (fun q => kf q H locs ls a b d)
theorem z_if_ne (F : z_F cl ats nw TB G own cc nL R0 X) {x : Int32} {off : Int} {tgt : Nat} (hd : decode cc pc = .ok (.ifCond .ne off, 3)) (ht : (pc : Int) + off = (tgt : Int)) (kt : ¬ x = 0 → z_V cl G nL X Q cells slots tgt lv st h) (kf : x = 0 → z_V cl G nL X Q cells slots (pc + 3) lv st h) : z_V cl G nL X Q cells slots pc lv (.int x :: st) h :=
  fun H locs ls a b d => lv_if_ne F.1 F.2.1 hd ht (fun q => kt q H locs ls a b d) (fun q => kf q H locs ls a b d)
theorem z_icmp_ne (F : z_F cl ats nw TB G own cc nL R0 X) {x y : Int32} {off : Int} {tgt : Nat} (hd : decode cc pc = .ok (.if_icmp .ne off, 3)) (ht : (pc : Int) + off = (tgt : Int)) (kt : ¬ x = y → z_V cl G nL X Q cells slots tgt lv st h) (kf : x = y → z_V cl G nL X Q cells slots (pc + 3) lv st h) : z_V cl G nL X Q cells slots pc lv (.int y :: .int x :: st) h :=
  fun H locs ls a b d => lv_icmp_ne F.1 F.2.1 hd ht (fun q => kt q H locs ls a b d) (fun q => kf q H locs ls a b d)
theorem z_if_lt (F : z_F cl ats nw TB G own cc nL R0 X) {x : Int32} {off : Int} {tgt : Nat} (hd : decode cc pc = .ok (.ifCond .lt off, 3)) (ht : (pc : Int) + off = (tgt : Int)) (kt : x < 0 → z_V cl G nL X Q cells slots tgt lv st h) (kf : ¬ x < 0 → z_V cl G nL X Q cells slots (pc + 3) lv st h) : z_V cl G nL X Q cells slots pc lv (.int x :: st) h :=
  fun H locs ls a b d => lv_if_lt F.1 F.2.1 hd ht (fun q => kt q H locs ls a b d) (fun q => kf q H locs ls a b d)
theorem z_icmp_lt (F : z_F cl ats nw TB G own cc nL R0 X) {x y : Int32} {off : Int} {tgt : Nat} (hd : decode cc pc = .ok (.if_icmp .lt off, 3)) (ht : (pc : Int) + off = (tgt : Int)) (kt : x < y → z_V cl G nL X Q cells slots tgt lv st h) (kf : ¬ x < y → z_V cl G nL X Q cells slots (pc + 3) lv st h) : z_V cl G nL X Q cells slots pc lv (.int y :: .int x :: st) h :=
  fun H locs ls a b d => lv_icmp_lt F.1 F.2.1 hd ht (fun q => kt q H locs ls a b d) (fun q => kf q H locs ls a b d)
theorem z_if_ge (F : z_F cl ats nw TB G own cc nL R0 X) {x : Int32} {off : Int} {tgt : Nat} (hd : decode cc pc = .ok (.ifCond .ge off, 3)) (ht : (pc : Int) + off = (tgt : Int)) (kt : 0 ≤ x → z_V cl G nL X Q cells slots tgt lv st h) (kf : ¬ 0 ≤ x → z_V cl G nL X Q cells slots (pc + 3) lv st h) : z_V cl G nL X Q cells slots pc lv (.int x :: st) h :=
  fun H locs ls a b d => lv_if_ge F.1 F.2.1 hd ht (fun q => kt q H locs ls a b d) (fun q => kf q H locs ls a b d)
theorem z_icmp_ge (F : z_F cl ats nw TB G own cc nL R0 X) {x y : Int32} {off : Int} {tgt : Nat} (hd : decode cc pc = .ok (.if_icmp .ge off, 3)) (ht : (pc : Int) + off = (tgt : Int)) (kt : y ≤ x → z_V cl G nL X Q cells slots tgt lv st h) (kf : ¬ y ≤ x → z_V cl G nL X Q cells slots (pc + 3) lv st h) : z_V cl G nL X Q cells slots pc lv (.int y :: .int x :: st) h :=
  fun H locs ls a b d => lv_icmp_ge F.1 F.2.1 hd ht (fun q => kt q H locs ls a b d) (fun q => kf q H locs ls a b d)
theorem z_if_gt (F : z_F cl ats nw TB G own cc nL R0 X) {x : Int32} {off : Int} {tgt : Nat} (hd : decode cc pc = .ok (.ifCond .gt off, 3)) (ht : (pc : Int) + off = (tgt : Int)) (kt : 0 < x → z_V cl G nL X Q cells slots tgt lv st h) (kf : ¬ 0 < x → z_V cl G nL X Q cells slots (pc + 3) lv st h) : z_V cl G nL X Q cells slots pc lv (.int x :: st) h :=
  fun H locs ls a b d => lv_if_gt F.1 F.2.1 hd ht (fun q => kt q H locs ls a b d) (fun q => kf q H locs ls a b d)
theorem z_icmp_gt (F : z_F cl ats nw TB G own cc nL R0 X) {x y : Int32} {off : Int} {tgt : Nat} (hd : decode cc pc = .ok (.if_icmp .gt off, 3)) (ht : (pc : Int) + off = (tgt : Int)) (kt : y < x → z_V cl G nL X Q cells slots tgt lv st h) (kf : ¬ y < x → z_V cl G nL X Q cells slots (pc + 3) lv st h) : z_V cl G nL X Q cells slots pc lv (.int y :: .int x :: st) h :=
  fun H locs ls a b d => lv_icmp_gt F.1 F.2.1 hd ht (fun q => kt q H locs ls a b d) (fun q => kf q H locs ls a b d)
theorem z_if_le (F : z_F cl ats nw TB G own cc nL R0 X) {x : Int32} {off : Int} {tgt : Nat} (hd : decode cc pc = .ok (.ifCond .le off, 3)) (ht : (pc : Int) + off = (tgt : Int)) (kt : x ≤ 0 → z_V cl G nL X Q cells slots tgt lv st h) (kf : ¬ x ≤ 0 → z_V cl G nL X Q cells slots (pc + 3) lv st h) : z_V cl G nL X Q cells slots pc lv (.int x :: st) h :=
  fun H locs ls a b d => lv_if_le F.1 F.2.1 hd ht (fun q => kt q H locs ls a b d) (fun q => kf q H locs ls a b d)
theorem z_icmp_le (F : z_F cl ats nw TB G own cc nL R0 X) {x y : Int32} {off : Int} {tgt : Nat} (hd : decode cc pc = .ok (.if_icmp .le off, 3)) (ht : (pc : Int) + off = (tgt : Int)) (kt : x ≤ y → z_V cl G nL X Q cells slots tgt lv st h) (kf : ¬ x ≤ y → z_V cl G nL X Q cells slots (pc + 3) lv st h) : z_V cl G nL X Q cells slots pc lv (.int y :: .int x :: st) h :=
  fun H locs ls a b d => lv_icmp_le F.1 F.2.1 hd ht (fun q => kt q H locs ls a b d) (fun q => kf q H locs ls a b d)
theorem z_goto (F : z_F cl ats nw TB G own cc nL R0 X) {off : Int} {tgt : Nat} (hd : decode cc pc = .ok (.goto off, 3)) (ht : (pc : Int) + off = (tgt : Int)) (k : z_V cl G nL X Q cells slots tgt lv st h) : z_V cl G nL X Q cells slots pc lv st h :=
  fun H locs ls a b d => lv_goto F.1 F.2.1 hd ht (k H locs ls a b d)
theorem z_ifnull (F : z_F cl ats nw TB G own cc nL R0 X) {u : Value} {off : Int} {tgt : Nat} (hd : decode cc pc = .ok (.ifnull off, 3)) (ht : (pc : Int) + off = (tgt : Int)) (hu : z_isR u = true) (kt : u = .null → z_V cl G nL X Q cells slots tgt lv st h) (kf : ¬ u = .null → z_V cl G nL X Q cells slots (pc + 3) lv st h) : z_V cl G nL X Q cells slots pc lv (u :: st) h :=
  fun H locs ls a b d => by
    cases u <;> first | exact Bool.noConfusion (show false = true from hu) | exact lv_ifnullN F.1 F.2.1 hd ht (kt rfl H locs ls a b d) | exact lv_ifnull F.1 F.2.1 hd (kf (fun q => by cases q) H locs ls a b d)
theorem z_ifnonnull (F : z_F cl ats nw TB G own cc nL R0 X) {u : Value} {off : Int} {tgt : Nat} (hd : decode cc pc = .ok (.ifnonnull off, 3)) (ht : (pc : Int) + off = (tgt : Int)) (hu : z_isR u = true) (kt : ¬ u = .null → z_V cl G nL X Q cells slots tgt lv st h) (kf : u = .null → z_V cl G nL X Q cells slots (pc + 3) lv st h) : z_V cl G nL X Q cells slots pc lv (u :: st) h :=
  fun H locs ls a b d => by
    cases u <;> first | exact Bool.noConfusion (show false = true from hu) | exact lv_ifnonnullN F.1 F.2.1 hd (kf rfl H locs ls a b d) | exact lv_ifnonnull F.1 F.2.1 hd ht (kt (fun q => by cases q) H locs ls a b d)
theorem z_tableIn (F : z_F cl ats nw TB G own cc nL R0 X) {x : Int32} {dflt lo hi off : Int} {offs : Array Int} {len tgt : Nat} (hd : decode cc pc = .ok (.tableswitch dflt lo hi offs, len)) (h1 : ¬ x.toInt < lo) (h2 : ¬ hi < x.toInt) (ho : offs[(x.toInt - lo).toNat]? = some off) (ht : (pc : Int) + off = (tgt : Int)) (k : z_V cl G nL X Q cells slots tgt lv st h) : z_V cl G nL X Q cells slots pc lv (.int x :: st) h :=
  fun H locs ls a b d => lv_tableIn F.1 F.2.1 hd h1 h2 ho ht (k H locs ls a b d)
theorem z_tableOut (F : z_F cl ats nw TB G own cc nL R0 X) {x : Int32} {dflt lo hi : Int} {offs : Array Int} {len tgt : Nat} (hd : decode cc pc = .ok (.tableswitch dflt lo hi offs, len)) (h1 : x.toInt < lo ∨ hi < x.toInt) (ht : (pc : Int) + dflt = (tgt : Int)) (k : z_V cl G nL X Q cells slots tgt lv st h) : z_V cl G nL X Q cells slots pc lv (.int x :: st) h :=
  fun H locs ls a b d => lv_tableOut F.1 F.2.1 hd h1 ht (k H locs ls a b d)
theorem z_lookup (F : z_F cl ats nw TB G own cc nL R0 X) {x : Int32} {dflt off : Int} {ps : Array (Int × Int)} {len tgt : Nat} (hd : decode cc pc = .ok (.lookupswitch dflt ps, len)) (hp : (ps.toList.zip (ps.toList.drop 1)).all (fun (a, next) => a.1 < next.1) = true) (ho : Op.lookupswitch.offset ps.toList dflt x.toInt = off) (ht : (pc : Int) + off = (tgt : Int)) (k : z_V cl G nL X Q cells slots tgt lv st h) : z_V cl G nL X Q cells slots pc lv (.int x :: st) h :=
  fun H locs ls a b d => lv_lookup F.1 F.2.1 hd hp ho ht (k H locs ls a b d)

end ZR
end
section
section ZR
variable {cl : List vw_C} {ats : List FieldType} {nw : State → Prop} {TB : List Cond} {G : z_G} {own : String} {cc : ByteArray} {nL : Nat} {R0 : Room} {X : z_X} {Q : State → Prop} {cells slots pc : Nat} {lv : List (Nat × Value)} {st : List Value} {h : z_H}
/-- a field by its number in the constant pool: class ci of cl, field j -/
def z_FA (cl : List vw_C) (TB : List Cond) (own : String) (idx ci j : Nat) : Prop :=
  ∃ q : vw_C, cl[ci]? = some q ∧ Cond.fieldLink own idx q.1 (q.2.1 j).2.1 (q.2.1 j).2.2.1 ∈ TB ∧ (∀ w ∈ u_ws q.1 q.2.1 q.2.2, w ∈ TB) ∧ j < q.2.2 ∧ (q.2.1 j).1 = q.1
theorem z_getf (F : z_F cl ats nw TB G own cc nL R0 X) {idx ci j k : Nat} {fs : List Value} {v : Value} (A : z_FA cl TB own idx ci j) (hd : decode cc pc = .ok (.getfield idx, 3)) (hk : h[k]? = some (.inr (ci, fs))) (hv : fs[j]? = some v)
    (kk : z_V cl G nL X Q cells slots (pc + 3) lv (v :: st) h) : z_V cl G nL X Q cells slots pc lv (.ref k :: st) h := by
  intro H locs ls r b d
  obtain ⟨⟨C, T, N⟩, hc, hl, hin, hj, hq⟩ := A
  obtain ⟨i, rfl⟩ := r.obj hk hc
  refine va_get (D := G.1) (ci := ci) (v := z_v G v) (fs := fs.map (z_v G)) (C := C) (T := T) (N := N) F.1 F.2.1 F.wd hin F.own F.kn r.2.2 i (z_ws_at hk) hc j hj (F.wd _ hl) (fun x h9 => ?_) ?_ hd (kk H locs ls r b d)
  · rw [← show (T j).1 = C from hq]; exact h9
  · rw [List.getElem?_map, hv]; rfl
theorem z_nar {ty : FieldType} {v : Value} (hn : narrow ty v = v) : narrow ty (z_v G v) = z_v G v := by
  cases v <;> first | exact hn | (cases ty <;> rfl)
theorem z_fit {ty : FieldType} {v : Value} (hn : fits ty v = true) : fits ty (z_v G v) = true := by
  cases v <;> first | exact hn | (cases ty <;> first | rfl | exact hn)
/-- what a store wants of the fields' table beside z_FA -/
def z_FT (cl : List vw_C) (ci : Nat) : Prop :=
  ∃ q : vw_C, cl[ci]? = some q ∧ ∃ ty0 : Nat → FieldType, (∀ k, k < q.2.2 → parseFieldDescriptor (q.2.1 k).2.2.1 = some (ty0 k)) ∧ (∀ a, a < q.2.2 → ∀ b, b < q.2.2 → a ≠ b → (q.2.1 a).2.1 ≠ (q.2.1 b).2.1)
def z_FD (cl : List vw_C) (ci j : Nat) (fin : Bool) (ty : FieldType) : Prop := ∃ q : vw_C, cl[ci]? = some q ∧ (q.2.1 j).2.2.2 = fin ∧ parseFieldDescriptor (q.2.1 j).2.2.1 = some ty
/-- the heap behind a store into an object -/
theorem z_R.put {k ci j : Nat} {fs : List Value} {v : Value} {H H1 : Heap} {q : vw_C} {cell : Cell} {iS : Nat} (r : z_R cl G h H) (hk : h[k + 1]? = some (.inr (ci, fs))) (hc : cl[ci]? = some q) (hj : j < fs.length) (hcell : H[z_ad G (k + 1)]? = some cell)
    (hob : t_OB (z_ad G (k + 1)) (G.1.1 ci) q.2.2 (G.1.2 ci) H1 (updV (vp_V (fs.map (z_v G))) j (z_v G v))) (hz : H1.size = H.size) (ho : ∀ q, q ≠ z_ad G (k + 1) → H1[q]? = H[q]?) : z_R cl G (h.set (k + 1) (.inr (ci, fs.set j v))) H1 := by
  refine ⟨?_, by rw [List.length_set, hz]; exact r.2.1, ?_⟩
  · rw [List.getElem?_set_ne (by omega)]; exact r.1
  · rw [z_ws_set]
    refine va_P.set r.2.2 (z_D G h) (z_ws_at hk) ⟨q, hc, ?_⟩ ho
    refine t_OB.to hob (fun i _ => ?_)
    rw [List.map_set]
    exact vp_updV_set (by rw [List.length_map]; exact hj) _ i
theorem z_putf (F : z_F cl ats nw TB G own cc nL R0 X) {idx ci j k : Nat} {fs : List Value} {v : Value} {ty : FieldType} (A : z_FA cl TB own idx ci j) (B : z_FT cl ci) (E : z_FD cl ci j false ty) (hd : decode cc pc = .ok (.putfield idx, 3)) (hk : h[k]? = some (.inr (ci, fs))) (hj2 : j < fs.length) (hn : narrow ty v = v) (hf : fits ty v = true)
    (kk : (h.set k (.inr (ci, fs.set j v)))[k]? = some (.inr (ci, fs.set j v)) → z_V cl G nL X Q cells slots (pc + 3) lv st (h.set k (.inr (ci, fs.set j v)))) : z_V cl G nL X Q cells slots pc lv (v :: .ref k :: st) h := by
  intro H locs ls r b d
  obtain ⟨⟨C, T, N⟩, hc, hl, hin, hj, hq⟩ := A
  obtain ⟨q2, hc2, ty0, hty, hnm⟩ := B
  obtain ⟨q3, hc3, hfin, hd3⟩ := E
  cases hc.symm.trans hc2
  cases hc.symm.trans hc3
  obtain ⟨i, rfl⟩ := r.obj hk hc
  have hap := va_apart (own := own) F.wd hin ty0 hty hnm F.kn hc
  obtain ⟨rr, h1, cell, q1, q2, q3, q4⟩ := r.2.2 i _ (z_ws_at hk)
  cases h1.symm.trans hc
  obtain ⟨hS, hfc, kC, hkC, hkind⟩ := F.kn.1 ci _ hc
  obtain ⟨cf, kf, fi, f, hi, hsl⟩ := hS j hj
  have hlay := F.wd _ (hin _ (u_in_lay hj))
  unfold u_lay at hlay
  rw [if_neg (by rw [hfin]; decide)] at hlay
  have hi2 : (z_Xs X).fieldFound? C (T j).2.1 (T j).2.2.1 = some (cf, kf, fi, f) := by rw [← show (T j).1 = C from hq]; exact hi
  have hst := (u_facts hfc hkC (u_lays F.wd hin hj) hi).1
  have h6 := u_store hfc hkC hkind hlay hi hd3 (z_nar (G := G) hn) (z_fit (G := G) hf)
  refine W.putK F.1 F.2.1 (f := f) ⟨F.own, F.wd _ hl, ⟨_, _, _, hi2⟩, hst⟩ (by rw [q2]; exact h6) q1 q3 (by rw [hsl]; exact k2_hasslot (q4 j hj)) rfl rfl hd fun H' e1 e2 e3 => ?_
  rw [hsl] at e1 ⊢
  exact kk (List.getElem?_set_self (List.getElem?_eq_some_iff.mp hk).1) H' _ ls (r.put (iS := 0) hk hc hj2 q1 ⟨_, e1, q2, q3, t_set q4 hap hj _⟩ e2 e3) (b.put e2 e3 ((z_D G h).2 i _ (z_ws_at hk))) d
theorem z_putF (F : z_F cl ats nw TB G own cc nL R0 X) {idx ci j k : Nat} {fs : List Value} {v : Value} {ty : FieldType} (A : z_FA cl TB own idx ci j) (B : z_FT cl ci) (E : z_FD cl ci j true ty) (hO : ∃ q : vw_C, cl[ci]? = some q ∧ q.1 = own) (hI : X.2.2.2.2.2.2.2.2.1.name = "<init>") (hd : decode cc pc = .ok (.putfield idx, 3)) (hk : h[k]? = some (.inr (ci, fs))) (hj2 : j < fs.length) (hn : narrow ty v = v) (hf : fits ty v = true)
    (kk : (h.set k (.inr (ci, fs.set j v)))[k]? = some (.inr (ci, fs.set j v)) → z_V cl G nL X Q cells slots (pc + 3) lv st (h.set k (.inr (ci, fs.set j v)))) : z_V cl G nL X Q cells slots pc lv (v :: .ref k :: st) h := by
  intro H locs ls r b d
  obtain ⟨⟨C, T, N⟩, hc, hl, hin, hj, hq⟩ := A
  obtain ⟨q2, hc2, ty0, hty, hnm⟩ := B
  obtain ⟨q3, hc3, hfin, hd3⟩ := E
  obtain ⟨q5, hc5, hown5⟩ := hO
  cases hc.symm.trans hc2
  cases hc.symm.trans hc3
  cases hc.symm.trans hc5
  obtain ⟨i, rfl⟩ := r.obj hk hc
  have hap := va_apart (own := own) F.wd hin ty0 hty hnm F.kn hc
  obtain ⟨rr, h1, cell, q1, q2, q3, q4⟩ := r.2.2 i _ (z_ws_at hk)
  cases h1.symm.trans hc
  obtain ⟨hS, hfc, kC, hkC, hkind⟩ := F.kn.1 ci _ hc
  obtain ⟨cf, kf, fi, f, hi, hsl⟩ := hS j hj
  have hlay := F.wd _ (hin _ (u_in_lay hj))
  unfold u_lay at hlay
  rw [if_pos hfin] at hlay
  have hi2 : (z_Xs X).fieldFound? C (T j).2.1 (T j).2.2.1 = some (cf, kf, fi, f) := by rw [← show (T j).1 = C from hq]; exact hi
  have hst := (u_facts hfc hkC (u_lays F.wd hin hj) hi).1
  have hcf : (z_Xm X).cls = cf := by
    obtain ⟨_, _, c', _, _, _, -, -, hf', -, -, -, hown2, -⟩ := Cond.laysFinal_spec hlay
    have e1 : c' = cf := by have := hi.symm.trans hf'; simp at this; exact this.1.symm
    rw [show (T j).1 = C from hq, show C = own from hown5] at hown2
    rw [← e1]; exact Option.some.inj (F.own.symm.trans hown2)
  have h6 := u_fits hfc hkC hkind (Or.inr hlay) hi hd3 (z_nar (G := G) hn) (z_fit (G := G) hf)
  refine W.putFinK F.1 F.2.1 F.own (F.wd _ hl) hi2 hst hcf hI (by rw [q2]; exact h6) q1 q3 (by rw [hsl]; exact k2_hasslot (q4 j hj)) rfl rfl hd fun H' e1 e2 e3 => ?_
  rw [hsl] at e1 ⊢
  exact kk (List.getElem?_set_self (List.getElem?_eq_some_iff.mp hk).1) H' _ ls (r.put (iS := 0) hk hc hj2 q1 ⟨_, e1, q2, q3, t_set q4 hap hj _⟩ e2 e3) (b.put e2 e3 ((z_D G h).2 i _ (z_ws_at hk))) d
end ZR
end
section
section ZR
variable {cl : List vw_C} {ats : List FieldType} {nw : State → Prop} {TB : List Cond} {G : z_G} {own : String} {cc : ByteArray} {nL : Nat} {R0 : Room} {X : z_X} {Q : State → Prop} {cells slots pc : Nat} {lv : List (Nat × Value)} {st : List Value} {h : z_H}
theorem z_ty {t : Nat} {ty : FieldType} (ht : ats[t]? = some ty) : (z_tys G ats)[t]? = some (G.2.1 t, ty) := by
  unfold z_tys
  rw [List.getElem?_mapIdx, ht]
  rfl
theorem z_iald (F : z_F cl ats nw TB G own cc nL R0 X) {k t n : Nat} {f : Nat → Int32} {i : Int32} (hd : decode cc pc = .ok (.iaload, 1)) (hk : h[k]? = some (.inl (t, n, .inl f))) (ht : ats[t]? = some .int) {j : Nat} (hi : i = nI j) (hj : j < n) (hN : n < 2147483648) (kk : z_V cl G nL X Q cells slots (pc + 1) lv (.int (f j) :: st) h) : z_V cl G nL X Q cells slots pc lv (.int i :: .ref k :: st) h := by
  have hin : vp_in i n := by subst hi; exact vp_in_nI hj hN
  have hcl : i.toNatClampNeg = j := by subst hi; exact nI_clamp (by omega)
  intro H locs ls r b d
  obtain ⟨w, rfl⟩ := r.arr hk
  refine va_iald F.1 F.2.1 F.kn r.2.2 w t (z_ws_at hk) (z_ty ht) hin hd ?_
  rw [hcl]
  exact kk H locs ls r b d
theorem z_bald (F : z_F cl ats nw TB G own cc nL R0 X) {k t n : Nat} {f : Nat → Int32} {i : Int32} (hd : decode cc pc = .ok (.baload, 1)) (hk : h[k]? = some (.inl (t, n, .inl f))) (ht : ats[t]? = some .byte) {j : Nat} (hi : i = nI j) (hj : j < n) (hN : n < 2147483648) (kk : z_V cl G nL X Q cells slots (pc + 1) lv (.int (f j) :: st) h) : z_V cl G nL X Q cells slots pc lv (.int i :: .ref k :: st) h := by
  have hin : vp_in i n := by subst hi; exact vp_in_nI hj hN
  have hcl : i.toNatClampNeg = j := by subst hi; exact nI_clamp (by omega)
  intro H locs ls r b d
  obtain ⟨w, rfl⟩ := r.arr hk
  refine va_bald F.1 F.2.1 F.kn r.2.2 w t (z_ws_at hk) (z_ty ht) hin hd ?_
  rw [hcl]
  exact kk H locs ls r b d
theorem z_zald (F : z_F cl ats nw TB G own cc nL R0 X) {k t n : Nat} {f : Nat → Int32} {i : Int32} (hd : decode cc pc = .ok (.baload, 1)) (hk : h[k]? = some (.inl (t, n, .inl f))) (ht : ats[t]? = some .boolean) {j : Nat} (hi : i = nI j) (hj : j < n) (hN : n < 2147483648) (kk : z_V cl G nL X Q cells slots (pc + 1) lv (.int (f j) :: st) h) : z_V cl G nL X Q cells slots pc lv (.int i :: .ref k :: st) h := by
  have hin : vp_in i n := by subst hi; exact vp_in_nI hj hN
  have hcl : i.toNatClampNeg = j := by subst hi; exact nI_clamp (by omega)
  intro H locs ls r b d
  obtain ⟨w, rfl⟩ := r.arr hk
  refine va_zald F.1 F.2.1 F.kn r.2.2 w t (z_ws_at hk) (z_ty ht) hin hd ?_
  rw [hcl]
  exact kk H locs ls r b d
theorem z_lald (F : z_F cl ats nw TB G own cc nL R0 X) {k t n : Nat} {f : Nat → Int64} {i : Int32} (hd : decode cc pc = .ok (.laload, 1)) (hk : h[k]? = some (.inl (t, n, .inr (.inl f)))) (ht : ats[t]? = some .long) {j : Nat} (hi : i = nI j) (hj : j < n) (hN : n < 2147483648) (kk : z_V cl G nL X Q cells slots (pc + 1) lv (.long (f j) :: st) h) : z_V cl G nL X Q cells slots pc lv (.int i :: .ref k :: st) h := by
  have hin : vp_in i n := by subst hi; exact vp_in_nI hj hN
  have hcl : i.toNatClampNeg = j := by subst hi; exact nI_clamp (by omega)
  intro H locs ls r b d
  obtain ⟨w, rfl⟩ := r.arr hk
  refine va_lald F.1 F.2.1 F.kn r.2.2 w t (z_ws_at hk) (z_ty ht) hin hd ?_
  rw [hcl]
  exact kk H locs ls r b d
theorem z_rfv (x : Option Nat) : va_rf (x.map (z_ad G)) = z_v G (va_rf x) := by cases x <;> rfl
theorem z_aald (F : z_F cl ats nw TB G own cc nL R0 X) {k t n : Nat} {C : String} {f : Nat → Option Nat} {i : Int32} (hd : decode cc pc = .ok (.aaload, 1)) (hk : h[k]? = some (.inl (t, n, .inr (.inr (.inr (.inr f)))))) (ht : ats[t]? = some (.object C)) {j : Nat} (hi : i = nI j) (hj : j < n) (hN : n < 2147483648) (kk : z_V cl G nL X Q cells slots (pc + 1) lv (va_rf (f j) :: st) h) : z_V cl G nL X Q cells slots pc lv (.int i :: .ref k :: st) h := by
  have hin : vp_in i n := by subst hi; exact vp_in_nI hj hN
  have hcl : i.toNatClampNeg = j := by subst hi; exact nI_clamp (by omega)
  intro H locs ls r b d
  obtain ⟨w, rfl⟩ := r.arr hk
  refine va_aldq F.1 F.2.1 F.kn r.2.2 w t (z_ws_at hk) (z_ty ht) hin hd ?_
  rw [hcl]
  have := kk H locs ls r b d
  rw [List.map_cons, ← z_rfv] at this
  exact this
theorem z_alen (F : z_F cl ats nw TB G own cc nL R0 X) {k t n : Nat} {ty : FieldType} {x : (Nat → Int32) ⊕ (Nat → Int64) ⊕ (Nat → UInt32) ⊕ (Nat → UInt64) ⊕ (Nat → Option Nat)} {v : Int32} (hd : decode cc pc = .ok (.arraylength, 1)) (hk : h[k]? = some (.inl (t, n, x))) (ht : ats[t]? = some ty) (hv : Int32.ofNat n = v) (kk : z_V cl G nL X Q cells slots (pc + 1) lv (.int v :: st) h) : z_V cl G nL X Q cells slots pc lv (.ref k :: st) h := by
  intro H locs ls r b d
  obtain ⟨j, rfl⟩ := r.arr hk
  refine va_alen (x := z_o G (n, x)) F.1 F.2.1 F.kn r.2.2 j t (z_ws_at hk) (z_ty ht) (v := v) ?_ hd (kk H locs ls r b d)
  rw [← hv]
  rcases x with f | f | f | f | f <;> rfl
/-- the heap behind a store into an array -/
theorem z_R.puta {k t : Nat} {a a' : vp_A} {H H1 : Heap} (r : z_R cl G h H) (hk : h[k + 1]? = some (.inl (t, a))) (hcell : H1[z_ad G (k + 1)]? = some (vp_cell (G.2.1 t) (z_o G a'))) (hz : H1.size = H.size) (ho : ∀ q, q ≠ z_ad G (k + 1) → H1[q]? = H[q]?) : z_R cl G (h.set (k + 1) (.inl (t, a'))) H1 := by
  refine ⟨?_, by rw [List.length_set, hz]; exact r.2.1, ?_⟩
  · rw [List.getElem?_set_ne (by omega)]; exact r.1
  · rw [z_ws_set]
    exact va_P.set r.2.2 (z_D G h) (z_ws_at hk) hcell ho
theorem z_upd (f : Nat → Int32) (k : Nat) (x : Int32) : updV (fun j => Value.int (f j)) k (.int x) = fun j => Value.int (upd f k x j) := by
  funext q
  by_cases hq : q = k <;> simp [updV, upd, hq]
theorem z_updL (f : Nat → Int64) (k : Nat) (x : Int64) : updV (fun j => Value.long (f j)) k (.long x) = fun j => Value.long (vp_updL f k x j) := by
  funext q
  by_cases hq : q = k <;> simp [updV, vp_updL, hq]
theorem z_arrI (cA : ClassId) (n k : Nat) (f : Nat → Int32) (x : Int32) : some ((vp_cell cA (z_o G (n, .inl f))).setSlot k (.int x)) = some (vp_cell cA (z_o G (n, .inl (upd f k x)))) := by
  show some (Cell.setSlot (arrV cA n (fun j => Value.int (f j))) k (.int x)) = some (arrV cA n (fun j => Value.int (upd f k x j)))
  rw [arrV_store, z_upd]
theorem z_arrL (cA : ClassId) (n k : Nat) (f : Nat → Int64) (x : Int64) : some ((vp_cell cA (z_o G (n, .inr (.inl f)))).setSlot k (.long x)) = some (vp_cell cA (z_o G (n, .inr (.inl (vp_updL f k x))))) := by
  show some (Cell.setSlot (arrV cA n (fun j => Value.long (f j))) k (.long x)) = some (arrV cA n (fun j => Value.long (vp_updL f k x j)))
  rw [arrV_store, z_updL]
theorem z_arrQ (cA : ClassId) (n k u : Nat) (f : Nat → Option Nat) : some ((vp_cell cA (z_o G (n, .inr (.inr (.inr (.inr f)))))).setSlot k (.ref (z_ad G u))) = some (vp_cell cA (z_o G (n, .inr (.inr (.inr (.inr (va_up f k (some u)))))))) := by
  show some (Cell.setSlot (arrV cA n (fun j => va_rf ((f j).map (z_ad G)))) k (.ref (z_ad G u))) = some (arrV cA n (fun j => va_rf ((va_up f k (some u) j).map (z_ad G))))
  rw [arrV_store]
  congr 2
  funext q
  by_cases hq : q = k <;> simp [updV, va_up, va_rf, hq]
theorem z_iast (F : z_F cl ats nw TB G own cc nL R0 X) {k t n : Nat} {f : Nat → Int32} {i x : Int32} (hd : decode cc pc = .ok (.iastore, 1)) (hk : h[k]? = some (.inl (t, n, .inl f))) (ht : ats[t]? = some .int) {j : Nat} (hi : i = nI j) (hj : j < n) (hN : n < 2147483648) (kk : z_V cl G nL X Q cells slots (pc + 1) lv st (h.set k (.inl (t, n, .inl (upd f j x))))) : z_V cl G nL X Q cells slots pc lv (.int x :: .int i :: .ref k :: st) h := by
  have hin : vp_in i n := by subst hi; exact vp_in_nI hj hN
  have hcl : i.toNatClampNeg = j := by subst hi; exact nI_clamp (by omega)
  intro H locs ls r b d
  obtain ⟨w, rfl⟩ := r.arr hk
  have hc := r.2.2 w _ (z_ws_at hk)
  refine W.iast F.1 F.2.1 hc ((F.kn.2 t _ (z_ty ht)).1 n (fun j => .int (f j))) (fun q => by cases q) (by show ¬ (i < 0 ∨ (arrV _ _ _).slots.size ≤ _); rw [arrV_size]; exact hin) rfl rfl hd fun H1 e z oq => ?_
  rw [hcl] at e
  refine kk H1 _ ls (r.puta hk ?_ z oq) (b.put z oq ((z_D G h).2 w _ (z_ws_at hk))) d
  exact e.trans (z_arrI _ _ _ _ _)
theorem z_bast (F : z_F cl ats nw TB G own cc nL R0 X) {k t n : Nat} {f : Nat → Int32} {i x : Int32} (hd : decode cc pc = .ok (.bastore, 1)) (hk : h[k]? = some (.inl (t, n, .inl f))) (ht : ats[t]? = some .byte) {j : Nat} (hi : i = nI j) (hj : j < n) (hN : n < 2147483648) (kk : z_V cl G nL X Q cells slots (pc + 1) lv st (h.set k (.inl (t, n, .inl (upd f j x.toInt8.toInt32))))) : z_V cl G nL X Q cells slots pc lv (.int x :: .int i :: .ref k :: st) h := by
  have hin : vp_in i n := by subst hi; exact vp_in_nI hj hN
  have hcl : i.toNatClampNeg = j := by subst hi; exact nI_clamp (by omega)
  intro H locs ls r b d
  obtain ⟨w, rfl⟩ := r.arr hk
  have hc := r.2.2 w _ (z_ws_at hk)
  refine W.bast F.1 F.2.1 hc ((F.kn.2 t _ (z_ty ht)).1 n (fun j => .int (f j))) (fun q => by cases q) (by show ¬ (i < 0 ∨ (arrV _ _ _).slots.size ≤ _); rw [arrV_size]; exact hin) rfl rfl hd fun H1 e z oq => ?_
  rw [hcl] at e
  refine kk H1 _ ls (r.puta hk ?_ z oq) (b.put z oq ((z_D G h).2 w _ (z_ws_at hk))) d
  exact e.trans (z_arrI _ _ _ _ _)
theorem z_zast (F : z_F cl ats nw TB G own cc nL R0 X) {k t n : Nat} {f : Nat → Int32} {i x : Int32} (hd : decode cc pc = .ok (.bastore, 1)) (hk : h[k]? = some (.inl (t, n, .inl f))) (ht : ats[t]? = some .boolean) {j : Nat} (hi : i = nI j) (hj : j < n) (hN : n < 2147483648) (kk : z_V cl G nL X Q cells slots (pc + 1) lv st (h.set k (.inl (t, n, .inl (upd f j (x &&& 1)))))) : z_V cl G nL X Q cells slots pc lv (.int x :: .int i :: .ref k :: st) h := by
  have hin : vp_in i n := by subst hi; exact vp_in_nI hj hN
  have hcl : i.toNatClampNeg = j := by subst hi; exact nI_clamp (by omega)
  intro H locs ls r b d
  obtain ⟨w, rfl⟩ := r.arr hk
  have hc := r.2.2 w _ (z_ws_at hk)
  refine W.zast F.1 F.2.1 hc ((F.kn.2 t _ (z_ty ht)).1 n (fun j => .int (f j))) (fun q => by cases q) (by show ¬ (i < 0 ∨ (arrV _ _ _).slots.size ≤ _); rw [arrV_size]; exact hin) rfl rfl hd fun H1 e z oq => ?_
  rw [hcl] at e
  refine kk H1 _ ls (r.puta hk ?_ z oq) (b.put z oq ((z_D G h).2 w _ (z_ws_at hk))) d
  exact e.trans (z_arrI _ _ _ _ _)
theorem z_last (F : z_F cl ats nw TB G own cc nL R0 X) {k t n : Nat} {f : Nat → Int64} {i : Int32} {x : Int64} (hd : decode cc pc = .ok (.lastore, 1)) (hk : h[k]? = some (.inl (t, n, .inr (.inl f)))) (ht : ats[t]? = some .long) {j : Nat} (hi : i = nI j) (hj : j < n) (hN : n < 2147483648) (kk : z_V cl G nL X Q cells slots (pc + 1) lv st (h.set k (.inl (t, n, .inr (.inl (vp_updL f j x)))))) : z_V cl G nL X Q cells slots pc lv (.long x :: .int i :: .ref k :: st) h := by
  have hin : vp_in i n := by subst hi; exact vp_in_nI hj hN
  have hcl : i.toNatClampNeg = j := by subst hi; exact nI_clamp (by omega)
  intro H locs ls r b d
  obtain ⟨w, rfl⟩ := r.arr hk
  have hc := r.2.2 w _ (z_ws_at hk)
  refine W.last F.1 F.2.1 hc ((F.kn.2 t _ (z_ty ht)).1 n (fun j => .long (f j))) (fun q => by cases q) (by show ¬ (i < 0 ∨ (arrV _ _ _).slots.size ≤ _); rw [arrV_size]; exact hin) rfl rfl hd fun H1 e z oq => ?_
  rw [hcl] at e
  refine kk H1 _ ls (r.puta hk ?_ z oq) (b.put z oq ((z_D G h).2 w _ (z_ws_at hk))) d
  exact e.trans (z_arrL _ _ _ _ _)
theorem z_aast (F : z_F cl ats nw TB G own cc nL R0 X) {k t n u ci : Nat} {f : Nat → Option Nat} {i : Int32} {q : vw_C} {fs : List Value} (hd : decode cc pc = .ok (.aastore, 1)) (hk : h[k]? = some (.inl (t, n, .inr (.inr (.inr (.inr f)))))) (hu : h[u]? = some (.inr (ci, fs))) (hc : cl[ci]? = some q) (ht : ats[t]? = some (.object q.1)) {j : Nat} (hi : i = nI j) (hj : j < n) (hN : n < 2147483648) (kk : z_V cl G nL X Q cells slots (pc + 1) lv st (h.set k (.inl (t, n, .inr (.inr (.inr (.inr (va_up f j (some u))))))))) : z_V cl G nL X Q cells slots pc lv (.ref u :: .int i :: .ref k :: st) h := by
  have hin : vp_in i n := by subst hi; exact vp_in_nI hj hN
  have hcl : i.toNatClampNeg = j := by subst hi; exact nI_clamp (by omega)
  intro H locs ls r b d
  obtain ⟨w, rfl⟩ := r.arr hk
  obtain ⟨u, rfl⟩ := r.obj hu hc
  have hlt : i.toNatClampNeg < n := Nat.not_le.mp fun q => hin (Or.inr q)
  have h0 : ¬ i < 0 := fun q => hin (Or.inl q)
  have hca := r.2.2 w _ (z_ws_at hk)
  obtain ⟨r', hr', cellV, g1, g2, g3, -⟩ := r.2.2 u _ (z_ws_at hu)
  have hcls := (F.kn.1 ci q hc).2
  obtain ⟨kA, comp, k1, k2, k3, -⟩ := (F.kn.2 t _ (z_ty ht)).2
  have hcomp : comp = G.1.1 ci := Option.some.inj (k3.symm.trans hcls.1)
  subst hcomp
  obtain ⟨kC, hkC, -⟩ := id hcls.2
  refine W.aast F.1 F.2.1 hca (fun q h => by cases h) (fun h => by cases h) k1 k2 rfl hkC ⟨h0, by show _ < (arrV _ _ _).slots.size; rw [arrV_size]; exact hlt⟩ g1 (fun q h => by rw [g3] at h; cases h) (by rw [g2]; exact hkC) (by rw [g2]; exact va_assign hcls) rfl rfl hd fun H1 e z oq => ?_
  rw [hcl] at e
  refine kk H1 _ ls (r.puta hk ?_ z oq) (b.put z oq ((z_D G h).2 w _ (z_ws_at hk))) d
  exact e.trans (z_arrQ (G := G) _ _ _ (u + 1) f)
/-- the heap behind a making -/
theorem z_R.push {H H1 : Heap} {e : z_E} (r : z_R cl G h H) (hn : va_at G.1 cl (z_ad G h.length, z_c G e) H1) (hz : H1.size = H.size + 1) (ho : ∀ q, q < H.size → H1[q]? = H[q]?) : z_R cl G (h ++ [e]) H1 := by
  refine ⟨?_, ?_, ?_⟩
  · rw [List.getElem?_append_left r.pos]; exact r.1
  · rw [hz, List.length_append]; have := r.2.1; simp only [List.length_cons, List.length_nil]; omega
  · rw [z_ws_push G h e r.pos]
    refine (va_P.kept r.2.2 (fun k x hx => ho x.1 ((r.2.2 k x hx).lt))).app (fun k x hx => ?_)
    have hk : k < 1 := (List.getElem?_eq_some_iff.mp hx).1
    rw [show k = 0 by omega] at hx
    cases hx
    exact hn
theorem z_R.top {H : Heap} (r : z_R cl G h H) : z_ad G h.length = H.size := by
  have h1 := r.pos
  have h2 := r.2.1
  cases hl : h.length with
  | zero => omega
  | succ n => rw [hl] at h2; show G.2.2.2 + n = H.size; omega
theorem z_Sp {H0 H H1 : Heap} {A : Nat → Prop} {locs : List Loc} (b : va_S A H0 H locs) (hz : H1.size = H.size + 1) (ho : ∀ q, q < H.size → H1[q]? = H[q]?) : va_S A H0 H1 locs :=
  ⟨Nat.le_trans b.1 (by omega), fun x h1 h2 => (ho x (Nat.lt_of_lt_of_le h1 b.1)).trans (b.2.1 x h1 h2), b.2.2⟩
theorem z_vV (fs : List Value) (j : Nat) : vp_V (fs.map (z_v G)) j = z_v G (vp_V fs j) := by
  unfold vp_V
  rw [List.getD_eq_getElem?_getD, List.getD_eq_getElem?_getD, List.getElem?_map]
  cases fs[j]? <;> rfl
theorem z_dv (t : FieldType) : z_v G (defaultValue t) = defaultValue t := by cases t <;> rfl
/-- a class that may be made -/
def z_FN (cl : List vw_C) (TB : List Cond) (own : String) (idx ci : Nat) (fs : List Value) (N : Nat) : Prop :=
  ∃ q : vw_C, cl[ci]? = some q ∧ q.2.2 = N ∧ Cond.classLink own idx q.1 ∈ TB ∧ Cond.instantiable q.1 q.2.2 ∈ TB ∧ Cond.initialized q.1 ∈ TB ∧ (∀ w ∈ u_ws q.1 q.2.1 q.2.2, w ∈ TB) ∧ ∃ ty0 : Nat → FieldType, (∀ k, k < q.2.2 → parseFieldDescriptor (q.2.1 k).2.2.1 = some (ty0 k)) ∧ ∀ j, j < q.2.2 → defaultValue (ty0 j) = vp_V fs j
theorem z_new (F : z_F cl ats nw TB G own cc nL R0 X) {idx ci N : Nat} {fs : List Value} (A : z_FN cl TB own idx ci fs N) (hd : decode cc pc = .ok (.new idx, 3)) (hcells : cells + 1 ≤ R0.cells) (hslots : slots + N ≤ R0.slots)
    (kk : z_V cl G nL X Q (cells + 1) (slots + N) (pc + 3) lv (.ref h.length :: st) (h ++ [.inr (ci, fs)])) : z_V cl G nL X Q cells slots pc lv st h := by
  intro H locs ls r b d
  obtain ⟨⟨C, T, N'⟩, hc, hN, hl, hinst, hini, hin, ty0, hty, hfs⟩ := A
  have hN : N' = N := hN
  subst hN
  have hKn := F.kn.1 ci _ hc
  refine W.newcK F.1 F.2.1 F.own (F.wd _ hl) (F.wd _ hinst) (F.wd _ hini) rfl hd (by rw [F.room]; exact hcells) (by rw [F.room]; exact hslots) hKn.2.1 r.top.symm fun H1 kC hkC e1 z1 o1 => ?_
  have z2 : H1.size = H.size + 1 := by rw [z1, r.top]
  have o2 : ∀ q, q < H.size → H1[q]? = H[q]? := fun q hq => o1 q (by rw [r.top]; exact hq)
  exact kk H1 locs ls (r.push ⟨_, hc, (u_born ty0 F.wd hin hKn hkC e1 hty).to (fun j hj => by rw [z_vV, ← hfs j hj, z_dv])⟩ z2 o2) (z_Sp b z2 o2) d
theorem z_newa (F : z_F cl ats nw TB G own cc nL R0 X) {atype : ArrayType} {t N : Nat} {n : Int32} {a0 : vp_A} (hw : Cond.arrayClass (newarray.typeOf atype) ∈ TB) (ht : ats[t]? = some (newarray.typeOf atype)) (ha : ∀ (G : z_G) (cA : ClassId), vp_cell cA (z_o G a0) = arrV cA N (fun _ => defaultValue (newarray.typeOf atype))) (hn : ¬ n < 0) (hN : n.toNatClampNeg = N) (hby : N * componentBytes (newarray.typeOf atype) ≤ 536870912) (hd : decode cc pc = .ok (.newarray atype, 2)) (hcells : cells + 1 ≤ R0.cells) (hslots : slots + N ≤ R0.slots)
    (kk : z_V cl G nL X Q (cells + 1) (slots + N) (pc + 2) lv (.ref h.length :: st) (h ++ [.inl (t, a0)])) : z_V cl G nL X Q cells slots pc lv (.int n :: st) h := by
  intro H locs ls r b d
  refine va_newaK F.1 F.2.1 (F.wd _ hw) rfl hd rfl hn hN hby (by rw [F.room]; exact hcells) (by rw [F.room]; exact hslots) r.top.symm fun H1 cA e1 z1 o1 hAr hNm => ?_
  have z2 : H1.size = H.size + 1 := by rw [z1, r.top]
  have o2 : ∀ q, q < H.size → H1[q]? = H[q]? := fun q hq => o1 q (by rw [r.top]; exact hq)
  have hRA : (z_Xs X).vm.findClass ("[" ++ (newarray.typeOf atype).toString) = some (G.2.1 t) := by
    have := (F.kn.2 t _ (z_ty ht)).2
    cases atype <;> exact this
  have hcA : cA = G.2.1 t := Option.some.inj (hNm.symm.trans hRA)
  subst hcA
  refine kk H1 locs ls (r.push ?_ z2 o2) (z_Sp b z2 o2) d
  show H1[z_ad G h.length]? = some (vp_cell _ (z_o G a0))
  rw [ha G]
  exact e1
theorem z_newq (F : z_F cl ats nw TB G own cc nL R0 X) {C : String} {idx t N : Nat} {n : Int32} (hl : Cond.classLink own idx C ∈ TB) (hov : va_AO C (z_Xs X)) (ht : ats[t]? = some (.object C)) (hn : ¬ n < 0) (hN : n.toNatClampNeg = N) (hby : N * 4 ≤ 536870912) (hd : decode cc pc = .ok (.anewarray idx, 3)) (hcells : cells + 1 ≤ R0.cells) (hslots : slots + N ≤ R0.slots)
    (kk : z_V cl G nL X Q (cells + 1) (slots + N) (pc + 3) lv (.ref h.length :: st) (h ++ [.inl (t, N, .inr (.inr (.inr (.inr (fun _ => none)))))])) : z_V cl G nL X Q cells slots pc lv (.int n :: st) h := by
  intro H locs ls r b d
  subst hN
  refine W.anew F.1 F.2.1 F.own (F.wd _ hl) (va_AO.use hov) rfl hd rfl hn hby (by rw [F.room]; exact hcells) (by rw [F.room]; exact hslots) fun cA kA comp f1 f2 f3 f4 => ?_
  generalize hH1 : H.push ({ cls := cA, slots := Array.replicate n.toNatClampNeg .null, vm := .none } : Cell) = H1
  have z1 : H1.size = H.size + 1 := by rw [← hH1, Array.size_push]
  have e1 : H1[H.size]? = some (arrV cA n.toNatClampNeg (fun _ => .null)) := by rw [← hH1, Array.getElem?_push_size, ← arrV_new]
  have o1 : ∀ q : Nat, q < H.size → H1[q]? = H[q]? := fun q hq => by rw [← hH1, Array.getElem?_push, if_neg (Nat.ne_of_lt hq)]
  obtain ⟨kA2, comp2, k1, k2, k3, k4⟩ := (F.kn.2 t _ (z_ty ht)).2
  have hcA : cA = G.2.1 t := Option.some.inj (f1.symm.trans k4)
  subst hcA
  have hW := kk H1 locs ls (r.push (by
    show H1[z_ad G h.length]? = some (vp_cell _ _)
    rw [r.top]
    exact e1) z1 o1) (z_Sp b z1 o1) d
  rw [List.map_cons, show z_v G (.ref h.length) = .ref H.size from congrArg Value.ref r.top] at hW
  exact hW
end ZR
end
section
section ZR
variable {cl : List vw_C} {ats : List FieldType} {nw : State → Prop} {TB : List Cond} {G : z_G} {own : String} {cc : ByteArray} {nL : Nat} {R0 : Room} {X : z_X} {Q : State → Prop} {cells slots pc : Nat} {lv : List (Nat × Value)} {st : List Value} {h : z_H}
/-- a method of ours as the tables have it -/
def z_FI (TB : List Cond) (y : MethodName) (c : ByteArray) (maxL : Nat) (rt : Option FieldType) : Prop :=
  Cond.code y c maxL rt ∈ TB ∧ Cond.initialized y.cls ∈ TB ∧ (y.cls ≠ "java/lang/invoke/MethodHandle" ∧ y.cls ≠ "java/lang/invoke/VarHandle") ∧ plainName y.cls = true
def z_NW (nw : State → Prop) : Prop := (∀ (s U : State), s.WarmedH U.vm → nw s → nw U) ∧ ∀ (a : Array Value) (U : State) (g : JFrame) (mk : MethodId), nw U → nw (U.calling g mk a)
/-- THE CONTRACT of a method at these arguments and this heap -/
def z_M (cl : List vw_C) (ats : List FieldType) (nw : State → Prop) (TB : List Cond) (y : MethodName) (c : ByteArray) (maxL : Nat) (rt : Option FieldType) (rk mc ms : Nat) (as : List Value) (h : z_H) (Q : Option Value → z_H → Prop) : Prop :=
  ∀ (l : Launch) (G : z_G), Met l y (Cond.code y c maxL rt :: TB) (z_rm rk mc ms) (va_Pc (as.map (z_v G)) (z_U cl ats nw G h)) (z_Q cl ats nw G Q) mc ms (z_A G)
theorem z_good {TB : List Cond} (hg : TB.all goodWord = true) {c : Cond} (hc : c ∈ TB) : GoodIn TB (c :: TB) := by
  intro w hw
  have hm : w ∈ TB := by
    rcases List.mem_cons.mp hw with rfl | h
    · exact hc
    · exact h
  exact ⟨hm, good_of_word (List.all_eq_true.mp hg w hm)⟩
theorem z_blind {as : List Value} (hnw : z_NW nw) : FrameBlind (va_Pc as (z_U cl ats nw G h)) := by
  intro a U g mk q
  obtain ⟨q0, q1, q2, q3⟩ := q
  exact ⟨q0, q1, va_K.moved (u := U) (U := U.calling g mk a) (Vm.Alike.refl U.vm) q2, hnw.2 a U g mk q3⟩
/-- behind a call -/
theorem z_back {lc : List Loc} {H : Heap} {ls : Array Slot} {mc ms : Nat} {stk rest : List Value} {a : Array Value} {Q' : Option Value → z_H → Prop} (r : z_R cl G h H) (b : va_S (z_A G) X.2.2.2.2.1.heap H lc) (d : lv_has ls nL (z_lv G lv))
    (hrun : va_Run X.1 X.2.1 X.2.2.1 X.2.2.2.1 X.2.2.2.2.1 X.2.2.2.2.2.1 X.2.2.2.2.2.2.1 X.2.2.2.2.2.2.2.1 X.2.2.2.2.2.2.2.2.1 X.2.2.2.2.2.2.2.2.2 H lc cells slots mc ms (F0 X.2.2.2.2.2.1 pc ls stk) (rest.map (z_v G)) (z_Q cl ats nw G Q' a) (z_A G))
    (kk : ∀ (v : Option Value) (h' : z_H), Q' v h' → z_V cl G nL X Q (cells + mc) (slots + ms) (pc + 3) lv (v.toList ++ rest) h') : z_W X H lc cells slots Q (F0 X.2.2.2.2.2.1 pc ls stk) := by
  intro T hT S
  obtain ⟨v, st0, t, T', L, h1, S', hL, e1, e2, ⟨⟨v', h', hv, hq, hr⟩, hF⟩, go⟩ := hrun T hT S
  injection hv with hv
  subst hv
  have b' : va_S (z_A G) X.2.2.2.2.1.heap t.heap (lc ++ L) := by
    refine ⟨Nat.le_trans b.1 (by rw [← h1]; exact hF.1), fun q q1 q2 => ?_, fun l hl => ?_⟩
    · rw [hF.2 q (by rw [h1]; exact Nat.lt_of_lt_of_le q1 b.1) q2, h1]
      exact b.2.1 q q1 q2
    · rcases List.mem_append.mp hl with hl | hl
      · exact b.2.2 l hl
      · exact hL l hl
  have hw := kk v' h' hq t.heap (lc ++ L) ls hr b' d
  have he : (v'.toList ++ rest).map (z_v G) = (v'.map (z_v G)).toList ++ rest.map (z_v G) := by cases v' <;> rfl
  rw [he] at hw
  obtain ⟨t2, s1, s2⟩ := hw T' e1 S'
  exact ⟨t2, go t2 s1, s2⟩
theorem z_room {m : MethodId} {ls : Array Slot} {stk rest : List Value} (h : (rest.map fun v => v.category).sum ≤ 8) : 2 * (F0 m pc ls stk).monitorRoom + ((rest.map (z_v G)).map fun v => v.category).sum ≤ 8 := by
  rw [z_cats]
  exact lv_room h
theorem z_callS (F : z_F cl ats nw TB G own cc nL R0 X) (hnw : z_NW nw) (hg : TB.all goodWord = true) {y : MethodName} {c : ByteArray} {maxL rk mc ms idx n : Nat} {rt : Option FieldType} {as rest : List Value} {stk : List Value} {Q' : Option Value → z_H → Prop} (hM : z_M cl ats nw TB y c maxL rt rk mc ms as h Q') (I : z_FI TB y c maxL rt) (hl : Cond.methodLink own idx y ∈ TB) (hs : Cond.static y ∈ TB) (hn : (parseMethodDescriptor y.desc).map (fun d => d.parameters.length) = some n) (hd : decode cc pc = .ok (.invokestatic idx, 3))
    (hstk : stk = as.reverse ++ rest) (hlen : as.length = n) (hcat : (rest.map fun v => v.category).sum ≤ 8) (hR : rk + 1 ≤ R0.frames ∧ 8 + (maxL + 11) + 40 * rk ≤ R0.locals ∧ cells + mc ≤ R0.cells ∧ slots + ms ≤ R0.slots)
    (kk : ∀ (v : Option Value) (h' : z_H), Q' v h' → z_V cl G nL X Q (cells + mc) (slots + ms) (pc + 3) lv (v.toList ++ rest) h') : z_V cl G nL X Q cells slots pc lv stk h := by
  intro H locs ls r b d
  subst hstk
  have hcw := callB_of (R := X.2.2.2.1) (s := X.2.2.2.2.1) (args := X.2.2.2.2.2.2.1) (rm := z_rm rk mc ms) (mc := mc) (ms := ms) n F.wd (z_good hg I.1) rfl rfl rfl (F.wd _ I.2.1) (F.wd _ hl) ⟨I.2.2.1.1, I.2.2.1.2, hn⟩ ⟨by rw [F.room]; exact hR.1, by rw [F.room]; exact hR.2.1⟩
  refine z_back r b d (va_runS (As := as.map (z_v G)) (rest := rest.map (z_v G)) ⟨F.1, F.2.1, F.2.2.1, F.own, F.wd⟩ (hM X.2.1 G) ⟨hcw, F.wd _ hs⟩ ⟨z_blind hnw, fun U hU hW => ⟨rfl, by rw [hU]; exact r, va_K.moved hW.alike F.kn, hnw.1 _ _ hW F.nws⟩⟩ rfl (by rw [List.length_map]; exact hlen) d.1 (by rw [List.map_append, List.map_reverse]) (z_room hcat) hd ⟨by rw [F.room]; exact hR.2.2.1, by rw [F.room]; exact hR.2.2.2⟩) kk
theorem z_callV (F : z_F cl ats nw TB G own cc nL R0 X) (hnw : z_NW nw) (hg : TB.all goodWord = true) {y : MethodName} {c : ByteArray} {maxL rk mc ms idx n k ci : Nat} {rt : Option FieldType} {as rest fs : List Value} {stk : List Value} {q : vw_C} {Q' : Option Value → z_H → Prop} (hM : z_M cl ats nw TB y c maxL rt rk mc ms (.ref k :: as) h Q') (hk : h[k]? = some (.inr (ci, fs))) (hc : cl[ci]? = some q) (I : z_FI TB y c maxL rt) (hl : Cond.methodLink own idx y ∈ TB) (hv : Cond.instanceMethod y ∈ TB) (hs : Cond.selects q.1 y y ∈ TB) (hn : (parseMethodDescriptor y.desc).map (fun d => d.parameters.length) = some n) (hd : decode cc pc = .ok (.invokevirtual idx, 3))
    (hstk : stk = as.reverse ++ .ref k :: rest) (hlen : as.length = n) (hcat : (rest.map fun v => v.category).sum ≤ 8) (hR : rk + 1 ≤ R0.frames ∧ 8 + (maxL + 11) + 40 * rk ≤ R0.locals ∧ cells + mc ≤ R0.cells ∧ slots + ms ≤ R0.slots)
    (kk : ∀ (v : Option Value) (h' : z_H), Q' v h' → z_V cl G nL X Q (cells + mc) (slots + ms) (pc + 3) lv (v.toList ++ rest) h') : z_V cl G nL X Q cells slots pc lv stk h := by
  intro H locs ls r b d
  subst hstk
  obtain ⟨i, rfl⟩ := r.obj hk hc
  have hcw := callB_of (R := X.2.2.2.1) (s := X.2.2.2.2.1) (args := X.2.2.2.2.2.2.1) (rm := z_rm rk mc ms) (mc := mc) (ms := ms) n F.wd (z_good hg I.1) rfl rfl rfl (F.wd _ I.2.1) (F.wd _ hl) ⟨I.2.2.1.1, I.2.2.1.2, hn⟩ ⟨by rw [F.room]; exact hR.1, by rw [F.room]; exact hR.2.1⟩
  refine z_back r b d (va_runV (As := as.map (z_v G)) (b := z_ad G (i + 1)) (rest := rest.map (z_v G)) ⟨F.1, F.2.1, F.2.2.1, F.own, F.wd⟩ (hM X.2.1 G) ⟨hcw, F.wd _ hv, F.wd _ hs⟩ ⟨z_blind hnw, va_recv F.kn r.2.2 hc (z_ws_at hk), fun U hU hW => ⟨rfl, by rw [hU]; exact r, va_K.moved hW.alike F.kn, hnw.1 _ _ hW F.nws⟩⟩ rfl (by rw [List.length_map]; exact hlen) d.1 (by rw [List.map_append, List.map_reverse]; rfl) (z_room hcat) hd ⟨by rw [F.room]; exact hR.2.2.1, by rw [F.room]; exact hR.2.2.2⟩) kk
theorem z_callI (F : z_F cl ats nw TB G own cc nL R0 X) (hnw : z_NW nw) (hg : TB.all goodWord = true) {y : MethodName} {c : ByteArray} {maxL rk mc ms idx n k : Nat} {as rest : List Value} {stk : List Value} {Q' : Option Value → z_H → Prop} (hM : z_M cl ats nw TB y c maxL none rk mc ms (.ref k :: as) h Q') (I : z_FI TB y c maxL none) (hl : Cond.methodLink own idx y ∈ TB) (hv : Cond.instanceMethod y ∈ TB) (hy : y.name = "<init>") (hn : (parseMethodDescriptor y.desc).map (fun d => d.parameters.length) = some n) (hd : decode cc pc = .ok (.invokespecial idx, 3))
    (hstk : stk = as.reverse ++ .ref k :: rest) (hlen : as.length = n) (hcat : (rest.map fun v => v.category).sum ≤ 8) (hR : rk + 1 ≤ R0.frames ∧ 8 + (maxL + 11) + 40 * rk ≤ R0.locals ∧ cells + mc ≤ R0.cells ∧ slots + ms ≤ R0.slots)
    (kk : ∀ (v : Option Value) (h' : z_H), Q' v h' → z_V cl G nL X Q (cells + mc) (slots + ms) (pc + 3) lv (v.toList ++ rest) h') : z_V cl G nL X Q cells slots pc lv stk h := by
  intro H locs ls r b d
  subst hstk
  have hcw := callB_of (R := X.2.2.2.1) (s := X.2.2.2.2.1) (args := X.2.2.2.2.2.2.1) (rm := z_rm rk mc ms) (mc := mc) (ms := ms) n F.wd (z_good hg I.1) rfl rfl rfl (F.wd _ I.2.1) (F.wd _ hl) ⟨I.2.2.1.1, I.2.2.1.2, hn⟩ ⟨by rw [F.room]; exact hR.1, by rw [F.room]; exact hR.2.1⟩
  refine z_back r b d (va_runI (As := as.map (z_v G)) (b := z_ad G k) (rest := rest.map (z_v G)) ⟨F.1, F.2.1, F.2.2.1, F.own, F.wd⟩ (hM X.2.1 G) ⟨hcw, hy, F.wd _ hv⟩ ⟨z_blind hnw, fun U hU hW => ⟨rfl, by rw [hU]; exact r, va_K.moved hW.alike F.kn, hnw.1 _ _ hW F.nws⟩⟩ rfl (by rw [List.length_map]; exact hlen) d.1 (by rw [List.map_append, List.map_reverse]; rfl) (z_room hcat) hd ⟨by rw [F.room]; exact hR.2.2.1, by rw [F.room]; exact hR.2.2.2⟩) kk
theorem z_objInit (F : z_F cl ats nw TB G own cc nL R0 X) {k idx : Nat} (hl : Cond.methodLink own idx objectInit ∈ TB) (hv : Cond.instanceMethod objectInit ∈ TB) (hcd : Cond.code objectInit ⟨#[0xb1]⟩ 1 none ∈ TB) (hd : decode cc pc = .ok (.invokespecial idx, 3)) (hfr : 1 ≤ R0.frames) (hlo : (st.map fun v => v.category).sum + 12 ≤ R0.locals) (kk : z_V cl G nL X Q cells slots (pc + 3) lv st h) : z_V cl G nL X Q cells slots pc lv (.ref k :: st) h := by
  intro H locs ls r b d
  refine W.objInit F.1 F.2.1 F.own (F.wd _ hl) (F.wd _ hv) (F.wd _ hcd) rfl (by rw [F.2.2.1]; exact d.1) rfl hd (by rw [F.room]; exact hfr) ?_ (kk H locs ls r b d)
  rw [F.room, z_cats]
  show 2 * 0 + _ + 12 ≤ _
  omega
/-- a method's end -/
def z_end (cl : List vw_C) (ats : List FieldType) (nw : State → Prop) (G : z_G) (X : z_X) (mc ms : Nat) (Q' : Option Value → z_H → Prop) : State → Prop := MQ X.2.2.2.2.2.2.2.1 (z_Q cl ats nw G Q') X.2.2.2.2.2.2.1 X.2.2.2.2.1 mc ms (z_A G)
variable {mc ms : Nat} {Q' : Option Value → z_H → Prop}
theorem z_iret (F : z_F cl ats nw TB G own cc nL R0 X) {x : Int32} {ty : FieldType} (hr : X.2.2.2.2.2.2.2.2.1.sig.returnType = some ty) (hd : decode cc pc = .ok (.ireturn, 1)) (hn : narrow ty (.int x) = .int x) (hc : cells ≤ mc) (hs : slots ≤ ms) (hq : Q' (some (.int x)) h) : z_V cl G nL X (z_end cl ats nw G X mc ms Q') cells slots pc lv [.int x] h := by
  intro H locs ls r b d
  refine W.widen hc hs ?_
  exact W.zret F.1 F.2.1 hr hn (fun t ht hW => ⟨⟨some (.int x), h, rfl, hq, by rw [ht]; exact r⟩, b.F ht⟩) b.2.2 hd F.lock
theorem z_lret (F : z_F cl ats nw TB G own cc nL R0 X) {x : Int64} (hr : X.2.2.2.2.2.2.2.2.1.sig.returnType = some .long) (hd : decode cc pc = .ok (.lreturn, 1)) (hc : cells ≤ mc) (hs : slots ≤ ms) (hq : Q' (some (.long x)) h) : z_V cl G nL X (z_end cl ats nw G X mc ms Q') cells slots pc lv [.long x] h := by
  intro H locs ls r b d
  refine W.widen hc hs ?_
  exact W.lret F.1 F.2.1 hr (fun t ht hW => ⟨⟨some (.long x), h, rfl, hq, by rw [ht]; exact r⟩, b.F ht⟩) b.2.2 hd F.lock
theorem z_vret (F : z_F cl ats nw TB G own cc nL R0 X) (hr : X.2.2.2.2.2.2.2.2.1.sig.returnType = none) (hd : decode cc pc = .ok (.return_, 1)) (hc : cells ≤ mc) (hs : slots ≤ ms) (hq : Q' none h) : z_V cl G nL X (z_end cl ats nw G X mc ms Q') cells slots pc lv [] h := by
  intro H locs ls r b d
  refine W.widen hc hs ?_
  exact W.vret F.1 F.2.1 hr (fun t ht hW => ⟨⟨none, h, rfl, hq, by rw [ht]; exact r⟩, b.F ht⟩) b.2.2 hd F.lock
theorem z_aret (F : z_F cl ats nw TB G own cc nL R0 X) {u : Value} {C : String} (hr : X.2.2.2.2.2.2.2.2.1.sig.returnType = some (.object C)) (hu : z_isR u = true) (hd : decode cc pc = .ok (.areturn, 1)) (hc : cells ≤ mc) (hs : slots ≤ ms) (hq : Q' (some u) h) : z_V cl G nL X (z_end cl ats nw G X mc ms Q') cells slots pc lv [u] h := by
  intro H locs ls r b d
  refine W.widen hc hs ?_
  have hv : z_v G u = .null ∨ ∃ a, z_v G u = .ref a := by
    cases u <;> first | exact Bool.noConfusion (show false = true from hu) | exact Or.inl rfl | exact Or.inr ⟨_, rfl⟩
  exact W.aret F.1 F.2.1 hr (Or.inl ⟨_, rfl⟩) hv (fun t ht hW => ⟨⟨some u, h, rfl, hq, by rw [ht]; exact r⟩, b.F ht⟩) b.2.2 hd F.lock
theorem z_args (G : z_G) : ∀ (as : List Value) (i : Nat), lv_args i (as.map (z_v G)) = z_lv G (lv_args i as)
  | [], i => rfl
  | v :: vs, i => by
    simp only [List.map_cons, lv_args, z_v_cat, z_lv]
    rw [z_args G vs]
    rfl
theorem z_slen (G : z_G) (as : List Value) : (lg_sl (as.map (z_v G))).length = (lg_sl as).length := by
  unfold lg_sl
  induction as with
  | nil => rfl
  | cons v vs ih =>
    simp only [List.map_cons, List.flatMap_cons, List.length_append, z_v_cat, ih]
    congr 1
    split <;> rfl
/-- a contract out of a walk -/
theorem z_met {y : MethodName} {c : ByteArray} {maxL rk : Nat} {rt : Option FieldType} {as : List Value} (I : z_FI TB y c maxL rt) (hlen : (lg_sl as).length ≤ maxL)
    (body : ∀ (G : z_G) (X : z_X), z_F cl ats nw TB G y.cls c maxL (z_rm rk mc ms) X → X.2.2.2.2.2.2.2.2.1.sig.returnType = rt → X.2.2.2.2.2.2.2.2.1.name = y.name → z_V cl G maxL X (z_end cl ats nw G X mc ms Q') 0 0 0 (lv_args 0 as) [] h) : z_M cl ats nw TB y c maxL rt rk mc ms as h Q' := by
  intro l G
  refine Met.ofW (cc := c) (maxL := maxL) (ret := rt) I.2.2.2 rfl ?_
  intro p e s m args below meth cd s₁ B hml hv
  obtain ⟨rfl, hR, hK, hN⟩ := hv
  have hts := atoms_spec (ws := Cond.code y c maxL rt :: TB) B.pre
  have hb : G.2.2.2 ≤ s.heap.size := by have h1 := hR.pos; have h2 := hR.2.1; omega
  have hl := lv_entry (as.map (z_v G)) (n := maxL) (by rw [z_slen]; exact hlen)
  rw [lg_entry_eq]
  rw [z_args] at hl
  exact body G (p, l, e, z_rm rk mc ms, s, m, (as.map (z_v G)).toArray, below, meth, cd) ⟨B.exec, B.bytes, hml, findClass_of_methodNamed B.named, fun w hw => hts w (List.mem_cons_of_mem _ hw), hK, hN, hb, rfl, B.notSynchronized⟩ B.returns (name_of_methodNamed B.named B.method).1 s.heap [] _ hR va_S.rf hl
end ZR
end
section
-- behind the r lists: 9
theorem wL_1 : ∀ w ∈ wsL_law_r1, w ∈ wsL_law := fun _ h => List.mem_append_left _ (List.mem_append_left _ (List.mem_append_left _ (List.mem_append_left _ (List.mem_append_left _ (List.mem_append_left _ (List.mem_append_left _ (List.mem_append_left _ (List.mem_append_left _ (List.mem_append_left _ h)))))))))
theorem wL_2 : ∀ w ∈ wsL_law_r2, w ∈ wsL_law := fun _ h => List.mem_append_left _ (List.mem_append_left _ (List.mem_append_left _ (List.mem_append_left _ (List.mem_append_left _ (List.mem_append_left _ (List.mem_append_left _ (List.mem_append_left _ (List.mem_append_left _ (List.mem_append_right _ (List.mem_append_left _ h))))))))))
theorem wL_3 : ∀ w ∈ wsL_law_r3, w ∈ wsL_law := fun _ h => List.mem_append_left _ (List.mem_append_left _ (List.mem_append_left _ (List.mem_append_left _ (List.mem_append_left _ (List.mem_append_left _ (List.mem_append_left _ (List.mem_append_left _ (List.mem_append_left _ (List.mem_append_right _ (List.mem_append_right _ (List.mem_append_left _ h)))))))))))
theorem wL_4 : ∀ w ∈ wsL_law_r4, w ∈ wsL_law := fun _ h => List.mem_append_left _ (List.mem_append_left _ (List.mem_append_left _ (List.mem_append_left _ (List.mem_append_left _ (List.mem_append_left _ (List.mem_append_left _ (List.mem_append_left _ (List.mem_append_left _ (List.mem_append_right _ (List.mem_append_right _ (List.mem_append_right _ (List.mem_append_left _ h))))))))))))
theorem wL_5 : ∀ w ∈ wsL_law_r5, w ∈ wsL_law := fun _ h => List.mem_append_left _ (List.mem_append_left _ (List.mem_append_left _ (List.mem_append_left _ (List.mem_append_left _ (List.mem_append_left _ (List.mem_append_left _ (List.mem_append_left _ (List.mem_append_left _ (List.mem_append_right _ (List.mem_append_right _ (List.mem_append_right _ (List.mem_append_right _ (List.mem_append_left _ h)))))))))))))
theorem wL_6 : ∀ w ∈ wsL_law_r6, w ∈ wsL_law := fun _ h => List.mem_append_left _ (List.mem_append_left _ (List.mem_append_left _ (List.mem_append_left _ (List.mem_append_left _ (List.mem_append_left _ (List.mem_append_left _ (List.mem_append_left _ (List.mem_append_left _ (List.mem_append_right _ (List.mem_append_right _ (List.mem_append_right _ (List.mem_append_right _ (List.mem_append_right _ (List.mem_append_left _ h))))))))))))))
theorem wL_7 : ∀ w ∈ wsL_law_r7, w ∈ wsL_law := fun _ h => List.mem_append_left _ (List.mem_append_left _ (List.mem_append_left _ (List.mem_append_left _ (List.mem_append_left _ (List.mem_append_left _ (List.mem_append_left _ (List.mem_append_left _ (List.mem_append_left _ (List.mem_append_right _ (List.mem_append_right _ (List.mem_append_right _ (List.mem_append_right _ (List.mem_append_right _ (List.mem_append_right _ (List.mem_append_left _ h)))))))))))))))
theorem wL_8 : ∀ w ∈ wsL_law_r8, w ∈ wsL_law := fun _ h => List.mem_append_left _ (List.mem_append_left _ (List.mem_append_left _ (List.mem_append_left _ (List.mem_append_left _ (List.mem_append_left _ (List.mem_append_left _ (List.mem_append_left _ (List.mem_append_left _ (List.mem_append_right _ (List.mem_append_right _ (List.mem_append_right _ (List.mem_append_right _ (List.mem_append_right _ (List.mem_append_right _ (List.mem_append_right _ (List.mem_append_left _ h))))))))))))))))
theorem wL_9 : ∀ w ∈ wsL_law_r9, w ∈ wsL_law := fun _ h => List.mem_append_left _ (List.mem_append_left _ (List.mem_append_left _ (List.mem_append_left _ (List.mem_append_left _ (List.mem_append_left _ (List.mem_append_left _ (List.mem_append_left _ (List.mem_append_left _ (List.mem_append_right _ (List.mem_append_right _ (List.mem_append_right _ (List.mem_append_right _ (List.mem_append_right _ (List.mem_append_right _ (List.mem_append_right _ (List.mem_append_right _ (List.mem_append_left _ h)))))))))))))))))
theorem wL_10 : ∀ w ∈ wsL_law_r10, w ∈ wsL_law := fun _ h => List.mem_append_left _ (List.mem_append_left _ (List.mem_append_left _ (List.mem_append_left _ (List.mem_append_left _ (List.mem_append_left _ (List.mem_append_left _ (List.mem_append_left _ (List.mem_append_left _ (List.mem_append_right _ (List.mem_append_right _ (List.mem_append_right _ (List.mem_append_right _ (List.mem_append_right _ (List.mem_append_right _ (List.mem_append_right _ (List.mem_append_right _ (List.mem_append_right _ (List.mem_append_left _ h))))))))))))))))))
theorem wL_11 : ∀ w ∈ wsL_law_r11, w ∈ wsL_law := fun _ h => List.mem_append_left _ (List.mem_append_left _ (List.mem_append_left _ (List.mem_append_left _ (List.mem_append_left _ (List.mem_append_left _ (List.mem_append_left _ (List.mem_append_left _ (List.mem_append_left _ (List.mem_append_right _ (List.mem_append_right _ (List.mem_append_right _ (List.mem_append_right _ (List.mem_append_right _ (List.mem_append_right _ (List.mem_append_right _ (List.mem_append_right _ (List.mem_append_right _ (List.mem_append_right _ (List.mem_append_left _ h)))))))))))))))))))
theorem wL_12 : ∀ w ∈ wsL_law_r12, w ∈ wsL_law := fun _ h => List.mem_append_left _ (List.mem_append_left _ (List.mem_append_left _ (List.mem_append_left _ (List.mem_append_left _ (List.mem_append_left _ (List.mem_append_left _ (List.mem_append_left _ (List.mem_append_left _ (List.mem_append_right _ (List.mem_append_right _ (List.mem_append_right _ (List.mem_append_right _ (List.mem_append_right _ (List.mem_append_right _ (List.mem_append_right _ (List.mem_append_right _ (List.mem_append_right _ (List.mem_append_right _ (List.mem_append_right _ (List.mem_append_left _ h))))))))))))))))))))
theorem wL_13 : ∀ w ∈ wsL_law_r13, w ∈ wsL_law := fun _ h => List.mem_append_left _ (List.mem_append_left _ (List.mem_append_left _ (List.mem_append_left _ (List.mem_append_left _ (List.mem_append_left _ (List.mem_append_left _ (List.mem_append_left _ (List.mem_append_left _ (List.mem_append_right _ (List.mem_append_right _ (List.mem_append_right _ (List.mem_append_right _ (List.mem_append_right _ (List.mem_append_right _ (List.mem_append_right _ (List.mem_append_right _ (List.mem_append_right _ (List.mem_append_right _ (List.mem_append_right _ (List.mem_append_right _ (List.mem_append_left _ h)))))))))))))))))))))
theorem wL_14 : ∀ w ∈ wsL_law_r14, w ∈ wsL_law := fun _ h => List.mem_append_left _ (List.mem_append_left _ (List.mem_append_left _ (List.mem_append_left _ (List.mem_append_left _ (List.mem_append_left _ (List.mem_append_left _ (List.mem_append_left _ (List.mem_append_left _ (List.mem_append_right _ (List.mem_append_right _ (List.mem_append_right _ (List.mem_append_right _ (List.mem_append_right _ (List.mem_append_right _ (List.mem_append_right _ (List.mem_append_right _ (List.mem_append_right _ (List.mem_append_right _ (List.mem_append_right _ (List.mem_append_right _ (List.mem_append_right _ (List.mem_append_left _ h))))))))))))))))))))))
theorem wL_15 : ∀ w ∈ wsL_law_r15, w ∈ wsL_law := fun _ h => List.mem_append_left _ (List.mem_append_left _ (List.mem_append_left _ (List.mem_append_left _ (List.mem_append_left _ (List.mem_append_left _ (List.mem_append_left _ (List.mem_append_left _ (List.mem_append_left _ (List.mem_append_right _ (List.mem_append_right _ (List.mem_append_right _ (List.mem_append_right _ (List.mem_append_right _ (List.mem_append_right _ (List.mem_append_right _ (List.mem_append_right _ (List.mem_append_right _ (List.mem_append_right _ (List.mem_append_right _ (List.mem_append_right _ (List.mem_append_right _ (List.mem_append_right _ (List.mem_append_left _ h)))))))))))))))))))))))
theorem wL_16 : ∀ w ∈ wsL_law_r16, w ∈ wsL_law := fun _ h => List.mem_append_left _ (List.mem_append_left _ (List.mem_append_left _ (List.mem_append_left _ (List.mem_append_left _ (List.mem_append_left _ (List.mem_append_left _ (List.mem_append_left _ (List.mem_append_left _ (List.mem_append_right _ (List.mem_append_right _ (List.mem_append_right _ (List.mem_append_right _ (List.mem_append_right _ (List.mem_append_right _ (List.mem_append_right _ (List.mem_append_right _ (List.mem_append_right _ (List.mem_append_right _ (List.mem_append_right _ (List.mem_append_right _ (List.mem_append_right _ (List.mem_append_right _ (List.mem_append_right _ (List.mem_append_left _ h))))))))))))))))))))))))
theorem wL_17 : ∀ w ∈ wsL_law_r17, w ∈ wsL_law := fun _ h => List.mem_append_left _ (List.mem_append_left _ (List.mem_append_left _ (List.mem_append_left _ (List.mem_append_left _ (List.mem_append_left _ (List.mem_append_left _ (List.mem_append_left _ (List.mem_append_left _ (List.mem_append_right _ (List.mem_append_right _ (List.mem_append_right _ (List.mem_append_right _ (List.mem_append_right _ (List.mem_append_right _ (List.mem_append_right _ (List.mem_append_right _ (List.mem_append_right _ (List.mem_append_right _ (List.mem_append_right _ (List.mem_append_right _ (List.mem_append_right _ (List.mem_append_right _ (List.mem_append_right _ (List.mem_append_right _ (List.mem_append_left _ h)))))))))))))))))))))))))
theorem wL_18 : ∀ w ∈ wsL_law_r18, w ∈ wsL_law := fun _ h => List.mem_append_left _ (List.mem_append_left _ (List.mem_append_left _ (List.mem_append_left _ (List.mem_append_left _ (List.mem_append_left _ (List.mem_append_left _ (List.mem_append_left _ (List.mem_append_left _ (List.mem_append_right _ (List.mem_append_right _ (List.mem_append_right _ (List.mem_append_right _ (List.mem_append_right _ (List.mem_append_right _ (List.mem_append_right _ (List.mem_append_right _ (List.mem_append_right _ (List.mem_append_right _ (List.mem_append_right _ (List.mem_append_right _ (List.mem_append_right _ (List.mem_append_right _ (List.mem_append_right _ (List.mem_append_right _ (List.mem_append_right _ (List.mem_append_left _ h))))))))))))))))))))))))))
theorem wL_19 : ∀ w ∈ wsL_law_r19, w ∈ wsL_law := fun _ h => List.mem_append_left _ (List.mem_append_left _ (List.mem_append_left _ (List.mem_append_left _ (List.mem_append_left _ (List.mem_append_left _ (List.mem_append_left _ (List.mem_append_left _ (List.mem_append_left _ (List.mem_append_right _ (List.mem_append_right _ (List.mem_append_right _ (List.mem_append_right _ (List.mem_append_right _ (List.mem_append_right _ (List.mem_append_right _ (List.mem_append_right _ (List.mem_append_right _ (List.mem_append_right _ (List.mem_append_right _ (List.mem_append_right _ (List.mem_append_right _ (List.mem_append_right _ (List.mem_append_right _ (List.mem_append_right _ (List.mem_append_right _ (List.mem_append_right _ (List.mem_append_left _ h)))))))))))))))))))))))))))
theorem wL_20 : ∀ w ∈ wsL_law_r20, w ∈ wsL_law := fun _ h => List.mem_append_left _ (List.mem_append_left _ (List.mem_append_left _ (List.mem_append_left _ (List.mem_append_left _ (List.mem_append_left _ (List.mem_append_left _ (List.mem_append_left _ (List.mem_append_left _ (List.mem_append_right _ (List.mem_append_right _ (List.mem_append_right _ (List.mem_append_right _ (List.mem_append_right _ (List.mem_append_right _ (List.mem_append_right _ (List.mem_append_right _ (List.mem_append_right _ (List.mem_append_right _ (List.mem_append_right _ (List.mem_append_right _ (List.mem_append_right _ (List.mem_append_right _ (List.mem_append_right _ (List.mem_append_right _ (List.mem_append_right _ (List.mem_append_right _ (List.mem_append_right _ (List.mem_append_left _ h))))))))))))))))))))))))))))
theorem wL_21 : ∀ w ∈ wsL_law_r21, w ∈ wsL_law := fun _ h => List.mem_append_left _ (List.mem_append_left _ (List.mem_append_left _ (List.mem_append_left _ (List.mem_append_left _ (List.mem_append_left _ (List.mem_append_left _ (List.mem_append_left _ (List.mem_append_left _ (List.mem_append_right _ (List.mem_append_right _ (List.mem_append_right _ (List.mem_append_right _ (List.mem_append_right _ (List.mem_append_right _ (List.mem_append_right _ (List.mem_append_right _ (List.mem_append_right _ (List.mem_append_right _ (List.mem_append_right _ (List.mem_append_right _ (List.mem_append_right _ (List.mem_append_right _ (List.mem_append_right _ (List.mem_append_right _ (List.mem_append_right _ (List.mem_append_right _ (List.mem_append_right _ (List.mem_append_right _ (List.mem_append_left _ h)))))))))))))))))))))))))))))
theorem wL_22 : ∀ w ∈ wsL_law_r22, w ∈ wsL_law := fun _ h => List.mem_append_left _ (List.mem_append_left _ (List.mem_append_left _ (List.mem_append_left _ (List.mem_append_left _ (List.mem_append_left _ (List.mem_append_left _ (List.mem_append_left _ (List.mem_append_left _ (List.mem_append_right _ (List.mem_append_right _ (List.mem_append_right _ (List.mem_append_right _ (List.mem_append_right _ (List.mem_append_right _ (List.mem_append_right _ (List.mem_append_right _ (List.mem_append_right _ (List.mem_append_right _ (List.mem_append_right _ (List.mem_append_right _ (List.mem_append_right _ (List.mem_append_right _ (List.mem_append_right _ (List.mem_append_right _ (List.mem_append_right _ (List.mem_append_right _ (List.mem_append_right _ (List.mem_append_right _ (List.mem_append_right _ (List.mem_append_left _ h))))))))))))))))))))))))))))))
theorem wL_23 : ∀ w ∈ wsL_law_r23, w ∈ wsL_law := fun _ h => List.mem_append_left _ (List.mem_append_left _ (List.mem_append_left _ (List.mem_append_left _ (List.mem_append_left _ (List.mem_append_left _ (List.mem_append_left _ (List.mem_append_left _ (List.mem_append_left _ (List.mem_append_right _ (List.mem_append_right _ (List.mem_append_right _ (List.mem_append_right _ (List.mem_append_right _ (List.mem_append_right _ (List.mem_append_right _ (List.mem_append_right _ (List.mem_append_right _ (List.mem_append_right _ (List.mem_append_right _ (List.mem_append_right _ (List.mem_append_right _ (List.mem_append_right _ (List.mem_append_right _ (List.mem_append_right _ (List.mem_append_right _ (List.mem_append_right _ (List.mem_append_right _ (List.mem_append_right _ (List.mem_append_right _ (List.mem_append_right _ (List.mem_append_left _ h)))))))))))))))))))))))))))))))
theorem wL_24 : ∀ w ∈ wsL_law_r24, w ∈ wsL_law := fun _ h => List.mem_append_left _ (List.mem_append_left _ (List.mem_append_left _ (List.mem_append_left _ (List.mem_append_left _ (List.mem_append_left _ (List.mem_append_left _ (List.mem_append_left _ (List.mem_append_left _ (List.mem_append_right _ (List.mem_append_right _ (List.mem_append_right _ (List.mem_append_right _ (List.mem_append_right _ (List.mem_append_right _ (List.mem_append_right _ (List.mem_append_right _ (List.mem_append_right _ (List.mem_append_right _ (List.mem_append_right _ (List.mem_append_right _ (List.mem_append_right _ (List.mem_append_right _ (List.mem_append_right _ (List.mem_append_right _ (List.mem_append_right _ (List.mem_append_right _ (List.mem_append_right _ (List.mem_append_right _ (List.mem_append_right _ (List.mem_append_right _ (List.mem_append_right _ (List.mem_append_left _ h))))))))))))))))))))))))))))))))
theorem wL_25 : ∀ w ∈ wsL_law_r25, w ∈ wsL_law := fun _ h => List.mem_append_left _ (List.mem_append_left _ (List.mem_append_left _ (List.mem_append_left _ (List.mem_append_left _ (List.mem_append_left _ (List.mem_append_left _ (List.mem_append_left _ (List.mem_append_left _ (List.mem_append_right _ (List.mem_append_right _ (List.mem_append_right _ (List.mem_append_right _ (List.mem_append_right _ (List.mem_append_right _ (List.mem_append_right _ (List.mem_append_right _ (List.mem_append_right _ (List.mem_append_right _ (List.mem_append_right _ (List.mem_append_right _ (List.mem_append_right _ (List.mem_append_right _ (List.mem_append_right _ (List.mem_append_right _ (List.mem_append_right _ (List.mem_append_right _ (List.mem_append_right _ (List.mem_append_right _ (List.mem_append_right _ (List.mem_append_right _ (List.mem_append_right _ (List.mem_append_right _ (h)))))))))))))))))))))))))))))))))
theorem vT_Jx00060 : z_FT vwCl 0 := ⟨(RJx00060, TJx00060, 6), rfl, tyJx00060, tyJx00060_ok, nmJx00060⟩
theorem vT_X0 : z_FT vwCl 1 := ⟨(RX0, TX0, 2), rfl, tyX0, tyX0_ok, nmX0⟩
theorem vD_X0_0 : z_FD vwCl 1 0 true (.array (.byte)) := ⟨(RX0, TX0, 2), rfl, rfl, by decide +kernel⟩
theorem vD_X0_1 : z_FD vwCl 1 1 false (.int) := ⟨(RX0, TX0, 2), rfl, rfl, by decide +kernel⟩
theorem vT_X1 : z_FT vwCl 2 := ⟨(RX1, TX1, 11), rfl, tyX1, tyX1_ok, nmX1⟩
theorem vD_X1_0 : z_FD vwCl 2 0 true (.int) := ⟨(RX1, TX1, 11), rfl, rfl, by decide +kernel⟩
theorem vD_X1_1 : z_FD vwCl 2 1 true (.int) := ⟨(RX1, TX1, 11), rfl, rfl, by decide +kernel⟩
theorem vD_X1_2 : z_FD vwCl 2 2 true (.int) := ⟨(RX1, TX1, 11), rfl, rfl, by decide +kernel⟩
theorem vD_X1_3 : z_FD vwCl 2 3 true (.boolean) := ⟨(RX1, TX1, 11), rfl, rfl, by decide +kernel⟩
theorem vD_X1_4 : z_FD vwCl 2 4 false (.int) := ⟨(RX1, TX1, 11), rfl, rfl, by decide +kernel⟩
theorem vD_X1_5 : z_FD vwCl 2 5 false (.boolean) := ⟨(RX1, TX1, 11), rfl, rfl, by decide +kernel⟩
theorem vD_X1_6 : z_FD vwCl 2 6 false (.long) := ⟨(RX1, TX1, 11), rfl, rfl, by decide +kernel⟩
theorem vD_X1_7 : z_FD vwCl 2 7 false (.boolean) := ⟨(RX1, TX1, 11), rfl, rfl, by decide +kernel⟩
theorem vD_X1_8 : z_FD vwCl 2 8 false (.long) := ⟨(RX1, TX1, 11), rfl, rfl, by decide +kernel⟩
theorem vD_X1_9 : z_FD vwCl 2 9 true (.array (.object "ServiceRows2$Identifier")) := ⟨(RX1, TX1, 11), rfl, rfl, by decide +kernel⟩
theorem vD_X1_10 : z_FD vwCl 2 10 true (.array (.int)) := ⟨(RX1, TX1, 11), rfl, rfl, by decide +kernel⟩
theorem vT_X2 : z_FT vwCl 3 := ⟨(RX2, TX2, 5), rfl, tyX2, tyX2_ok, nmX2⟩
theorem vD_X2_0 : z_FD vwCl 3 0 true (.array (.byte)) := ⟨(RX2, TX2, 5), rfl, rfl, by decide +kernel⟩
theorem vD_X2_1 : z_FD vwCl 3 1 false (.boolean) := ⟨(RX2, TX2, 5), rfl, rfl, by decide +kernel⟩
theorem vD_X2_2 : z_FD vwCl 3 2 false (.int) := ⟨(RX2, TX2, 5), rfl, rfl, by decide +kernel⟩
theorem vD_X2_3 : z_FD vwCl 3 3 false (.int) := ⟨(RX2, TX2, 5), rfl, rfl, by decide +kernel⟩
theorem vD_X2_4 : z_FD vwCl 3 4 false (.boolean) := ⟨(RX2, TX2, 5), rfl, rfl, by decide +kernel⟩
theorem vT_X3 : z_FT vwCl 4 := ⟨(RX3, TX3, 5), rfl, tyX3, tyX3_ok, nmX3⟩
theorem vD_X3_0 : z_FD vwCl 4 0 true (.int) := ⟨(RX3, TX3, 5), rfl, rfl, by decide +kernel⟩
theorem vD_X3_1 : z_FD vwCl 4 1 true (.int) := ⟨(RX3, TX3, 5), rfl, rfl, by decide +kernel⟩
theorem vD_X3_2 : z_FD vwCl 4 2 false (.boolean) := ⟨(RX3, TX3, 5), rfl, rfl, by decide +kernel⟩
theorem vD_X3_3 : z_FD vwCl 4 3 false (.int) := ⟨(RX3, TX3, 5), rfl, rfl, by decide +kernel⟩
theorem vD_X3_4 : z_FD vwCl 4 4 false (.int) := ⟨(RX3, TX3, 5), rfl, rfl, by decide +kernel⟩
theorem vT_X4 : z_FT vwCl 5 := ⟨(RX4, TX4, 4), rfl, tyX4, tyX4_ok, nmX4⟩
theorem vD_X4_0 : z_FD vwCl 5 0 false (.boolean) := ⟨(RX4, TX4, 4), rfl, rfl, by decide +kernel⟩
theorem vD_X4_1 : z_FD vwCl 5 1 false (.int) := ⟨(RX4, TX4, 4), rfl, rfl, by decide +kernel⟩
theorem vD_X4_2 : z_FD vwCl 5 2 false (.int) := ⟨(RX4, TX4, 4), rfl, rfl, by decide +kernel⟩
theorem vD_X4_3 : z_FD vwCl 5 3 false (.int) := ⟨(RX4, TX4, 4), rfl, rfl, by decide +kernel⟩
theorem vT_X5 : z_FT vwCl 6 := ⟨(RX5, TX5, 16), rfl, tyX5, tyX5_ok, nmX5⟩
theorem vD_X5_0 : z_FD vwCl 6 0 true (.array (.object "ServiceRows2$Identifier")) := ⟨(RX5, TX5, 16), rfl, rfl, by decide +kernel⟩
theorem vD_X5_1 : z_FD vwCl 6 1 false (.int) := ⟨(RX5, TX5, 16), rfl, rfl, by decide +kernel⟩
theorem vD_X5_2 : z_FD vwCl 6 2 true (.array (.object "ServiceRows2$Routine")) := ⟨(RX5, TX5, 16), rfl, rfl, by decide +kernel⟩
theorem vD_X5_3 : z_FD vwCl 6 3 false (.int) := ⟨(RX5, TX5, 16), rfl, rfl, by decide +kernel⟩
theorem vD_X5_4 : z_FD vwCl 6 4 false (.boolean) := ⟨(RX5, TX5, 16), rfl, rfl, by decide +kernel⟩
theorem vD_X5_5 : z_FD vwCl 6 5 false (.boolean) := ⟨(RX5, TX5, 16), rfl, rfl, by decide +kernel⟩
theorem vD_X5_6 : z_FD vwCl 6 6 false (.int) := ⟨(RX5, TX5, 16), rfl, rfl, by decide +kernel⟩
theorem vD_X5_7 : z_FD vwCl 6 7 false (.int) := ⟨(RX5, TX5, 16), rfl, rfl, by decide +kernel⟩
theorem vD_X5_8 : z_FD vwCl 6 8 false (.int) := ⟨(RX5, TX5, 16), rfl, rfl, by decide +kernel⟩
theorem vD_X5_9 : z_FD vwCl 6 9 false (.long) := ⟨(RX5, TX5, 16), rfl, rfl, by decide +kernel⟩
theorem vD_X5_10 : z_FD vwCl 6 10 false (.long) := ⟨(RX5, TX5, 16), rfl, rfl, by decide +kernel⟩
theorem vD_X5_11 : z_FD vwCl 6 11 false (.int) := ⟨(RX5, TX5, 16), rfl, rfl, by decide +kernel⟩
theorem vD_X5_12 : z_FD vwCl 6 12 true (.object "ServiceRows2$Question") := ⟨(RX5, TX5, 16), rfl, rfl, by decide +kernel⟩
theorem vD_X5_13 : z_FD vwCl 6 13 true (.object "ServiceRows2$Question") := ⟨(RX5, TX5, 16), rfl, rfl, by decide +kernel⟩
theorem vD_X5_14 : z_FD vwCl 6 14 true (.object "ServiceRows2$Answer") := ⟨(RX5, TX5, 16), rfl, rfl, by decide +kernel⟩
theorem vD_X5_15 : z_FD vwCl 6 15 true (.object "ServiceRows2$Transfer") := ⟨(RX5, TX5, 16), rfl, rfl, by decide +kernel⟩
theorem vT_X6 : z_FT vwCl 7 := ⟨(RX6, TX6, 43), rfl, tyX6, tyX6_ok, nmX6⟩
theorem vD_X6_0 : z_FD vwCl 7 0 false (.int) := ⟨(RX6, TX6, 43), rfl, rfl, by decide +kernel⟩
theorem vD_X6_1 : z_FD vwCl 7 1 false (.int) := ⟨(RX6, TX6, 43), rfl, rfl, by decide +kernel⟩
theorem vD_X6_2 : z_FD vwCl 7 2 false (.int) := ⟨(RX6, TX6, 43), rfl, rfl, by decide +kernel⟩
theorem vD_X6_3 : z_FD vwCl 7 3 false (.long) := ⟨(RX6, TX6, 43), rfl, rfl, by decide +kernel⟩
theorem vD_X6_4 : z_FD vwCl 7 4 false (.long) := ⟨(RX6, TX6, 43), rfl, rfl, by decide +kernel⟩
theorem vD_X6_5 : z_FD vwCl 7 5 false (.boolean) := ⟨(RX6, TX6, 43), rfl, rfl, by decide +kernel⟩
theorem vD_X6_6 : z_FD vwCl 7 6 false (.boolean) := ⟨(RX6, TX6, 43), rfl, rfl, by decide +kernel⟩
theorem vD_X6_7 : z_FD vwCl 7 7 false (.int) := ⟨(RX6, TX6, 43), rfl, rfl, by decide +kernel⟩
theorem vD_X6_8 : z_FD vwCl 7 8 false (.int) := ⟨(RX6, TX6, 43), rfl, rfl, by decide +kernel⟩
theorem vD_X6_9 : z_FD vwCl 7 9 true (.array (.int)) := ⟨(RX6, TX6, 43), rfl, rfl, by decide +kernel⟩
theorem vD_X6_10 : z_FD vwCl 7 10 true (.array (.int)) := ⟨(RX6, TX6, 43), rfl, rfl, by decide +kernel⟩
theorem vD_X6_11 : z_FD vwCl 7 11 true (.array (.int)) := ⟨(RX6, TX6, 43), rfl, rfl, by decide +kernel⟩
theorem vD_X6_12 : z_FD vwCl 7 12 true (.array (.int)) := ⟨(RX6, TX6, 43), rfl, rfl, by decide +kernel⟩
theorem vD_X6_13 : z_FD vwCl 7 13 true (.array (.long)) := ⟨(RX6, TX6, 43), rfl, rfl, by decide +kernel⟩
theorem vD_X6_14 : z_FD vwCl 7 14 true (.array (.boolean)) := ⟨(RX6, TX6, 43), rfl, rfl, by decide +kernel⟩
theorem vD_X6_15 : z_FD vwCl 7 15 true (.array (.long)) := ⟨(RX6, TX6, 43), rfl, rfl, by decide +kernel⟩
theorem vD_X6_16 : z_FD vwCl 7 16 true (.array (.boolean)) := ⟨(RX6, TX6, 43), rfl, rfl, by decide +kernel⟩
theorem vD_X6_17 : z_FD vwCl 7 17 true (.array (.boolean)) := ⟨(RX6, TX6, 43), rfl, rfl, by decide +kernel⟩
theorem vD_X6_18 : z_FD vwCl 7 18 true (.array (.int)) := ⟨(RX6, TX6, 43), rfl, rfl, by decide +kernel⟩
theorem vD_X6_19 : z_FD vwCl 7 19 true (.array (.int)) := ⟨(RX6, TX6, 43), rfl, rfl, by decide +kernel⟩
theorem vD_X6_20 : z_FD vwCl 7 20 false (.int) := ⟨(RX6, TX6, 43), rfl, rfl, by decide +kernel⟩
theorem vD_X6_21 : z_FD vwCl 7 21 true (.array (.int)) := ⟨(RX6, TX6, 43), rfl, rfl, by decide +kernel⟩
theorem vD_X6_22 : z_FD vwCl 7 22 true (.array (.int)) := ⟨(RX6, TX6, 43), rfl, rfl, by decide +kernel⟩
theorem vD_X6_23 : z_FD vwCl 7 23 true (.array (.boolean)) := ⟨(RX6, TX6, 43), rfl, rfl, by decide +kernel⟩
theorem vD_X6_24 : z_FD vwCl 7 24 true (.array (.int)) := ⟨(RX6, TX6, 43), rfl, rfl, by decide +kernel⟩
theorem vD_X6_25 : z_FD vwCl 7 25 true (.array (.int)) := ⟨(RX6, TX6, 43), rfl, rfl, by decide +kernel⟩
theorem vD_X6_26 : z_FD vwCl 7 26 false (.boolean) := ⟨(RX6, TX6, 43), rfl, rfl, by decide +kernel⟩
theorem vD_X6_27 : z_FD vwCl 7 27 false (.int) := ⟨(RX6, TX6, 43), rfl, rfl, by decide +kernel⟩
theorem vD_X6_28 : z_FD vwCl 7 28 false (.int) := ⟨(RX6, TX6, 43), rfl, rfl, by decide +kernel⟩
theorem vD_X6_29 : z_FD vwCl 7 29 false (.int) := ⟨(RX6, TX6, 43), rfl, rfl, by decide +kernel⟩
theorem vD_X6_30 : z_FD vwCl 7 30 false (.int) := ⟨(RX6, TX6, 43), rfl, rfl, by decide +kernel⟩
theorem vD_X6_31 : z_FD vwCl 7 31 false (.boolean) := ⟨(RX6, TX6, 43), rfl, rfl, by decide +kernel⟩
theorem vD_X6_32 : z_FD vwCl 7 32 false (.int) := ⟨(RX6, TX6, 43), rfl, rfl, by decide +kernel⟩
theorem vD_X6_33 : z_FD vwCl 7 33 false (.boolean) := ⟨(RX6, TX6, 43), rfl, rfl, by decide +kernel⟩
theorem vD_X6_34 : z_FD vwCl 7 34 false (.boolean) := ⟨(RX6, TX6, 43), rfl, rfl, by decide +kernel⟩
theorem vD_X6_35 : z_FD vwCl 7 35 false (.int) := ⟨(RX6, TX6, 43), rfl, rfl, by decide +kernel⟩
theorem vD_X6_36 : z_FD vwCl 7 36 true (.array (.int)) := ⟨(RX6, TX6, 43), rfl, rfl, by decide +kernel⟩
theorem vD_X6_37 : z_FD vwCl 7 37 false (.boolean) := ⟨(RX6, TX6, 43), rfl, rfl, by decide +kernel⟩
theorem vD_X6_38 : z_FD vwCl 7 38 false (.int) := ⟨(RX6, TX6, 43), rfl, rfl, by decide +kernel⟩
theorem vD_X6_39 : z_FD vwCl 7 39 true (.array (.int)) := ⟨(RX6, TX6, 43), rfl, rfl, by decide +kernel⟩
theorem vD_X6_40 : z_FD vwCl 7 40 false (.int) := ⟨(RX6, TX6, 43), rfl, rfl, by decide +kernel⟩
theorem vD_X6_41 : z_FD vwCl 7 41 true (.array (.int)) := ⟨(RX6, TX6, 43), rfl, rfl, by decide +kernel⟩
theorem vD_X6_42 : z_FD vwCl 7 42 false (.int) := ⟨(RX6, TX6, 43), rfl, rfl, by decide +kernel⟩
theorem vN_L_8 : z_FN vwCl wsL_law RL 8 6 [.null, .int 0, .null, .int 0, .int 0, .int 0, .int 0, .int 0, .int 0, .long 0, .long 0, .int 0, .null, .null, .null, .null] 16 := ⟨(RX5, TX5, 16), rfl, rfl, wL_1 _ (by decide +kernel), wL_1 _ (by decide +kernel), wL_1 _ (by decide +kernel), inlX5, tyX5, tyX5_ok, by decide +kernel⟩
theorem vC_L_8 : Cond.classLink RL 8 RX5 ∈ wsL_law := wL_1 _ (by decide +kernel)
theorem vN_L_16 : z_FN vwCl wsL_law RL 16 7 [.int 0, .int 0, .int 0, .long 0, .long 0, .int 0, .int 0, .int 0, .int 0, .null, .null, .null, .null, .null, .null, .null, .null, .null, .null, .null, .int 0, .null, .null, .null, .null, .null, .int 0, .int 0, .int 0, .int 0, .int 0, .int 0, .int 0, .int 0, .int 0, .int 0, .null, .int 0, .int 0, .null, .int 0, .null, .int 0] 43 := ⟨(RX6, TX6, 43), rfl, rfl, wL_1 _ (by decide +kernel), wL_1 _ (by decide +kernel), wL_1 _ (by decide +kernel), inlX6, tyX6, tyX6_ok, by decide +kernel⟩
theorem vC_L_16 : Cond.classLink RL 16 RX6 ∈ wsL_law := wL_1 _ (by decide +kernel)
theorem vA_long : Cond.arrayClass .long ∈ wsL_law := wL_1 _ (by decide +kernel)
theorem vK_L_44 : Cond.constantLong RL 44 (4294967295) ∈ wsL_law := wL_1 _ (by decide +kernel)
theorem vM_L_15 : Cond.methodLink RL 15 yX5_init ∈ wsL_law := wL_1 _ (by decide +kernel)
theorem vM_X5_1 : Cond.methodLink RX5 1 objectInit ∈ wsL_law := wL_1 _ (by decide +kernel)
theorem vN_X5_9 : z_FN vwCl wsL_law RX5 9 2 [.int 0, .int 0, .int 0, .int 0, .int 0, .int 0, .long 0, .int 0, .long 0, .null, .null] 11 := ⟨(RX1, TX1, 11), rfl, rfl, wL_1 _ (by decide +kernel), wL_5 _ (by decide +kernel), wL_5 _ (by decide +kernel), inlX1, tyX1, tyX1_ok, by decide +kernel⟩
theorem vC_X5_9 : Cond.classLink RX5 9 RX1 ∈ wsL_law := wL_1 _ (by decide +kernel)
theorem vF_X5_11 : z_FA vwCl wsL_law RX5 11 6 0 := ⟨(RX5, TX5, 16), rfl, wL_1 _ (by decide +kernel), inlX5, by decide, rfl⟩
theorem vF_X5_15 : z_FA vwCl wsL_law RX5 15 6 1 := ⟨(RX5, TX5, 16), rfl, wL_1 _ (by decide +kernel), inlX5, by decide, rfl⟩
theorem vN_X5_19 : z_FN vwCl wsL_law RX5 19 4 [.int 0, .int 0, .int 0, .int 0, .int 0] 5 := ⟨(RX3, TX3, 5), rfl, rfl, wL_1 _ (by decide +kernel), wL_8 _ (by decide +kernel), wL_8 _ (by decide +kernel), inlX3, tyX3, tyX3_ok, by decide +kernel⟩
theorem vC_X5_19 : Cond.classLink RX5 19 RX3 ∈ wsL_law := wL_1 _ (by decide +kernel)
theorem vF_X5_21 : z_FA vwCl wsL_law RX5 21 6 2 := ⟨(RX5, TX5, 16), rfl, wL_1 _ (by decide +kernel), inlX5, by decide, rfl⟩
theorem vF_X5_25 : z_FA vwCl wsL_law RX5 25 6 3 := ⟨(RX5, TX5, 16), rfl, wL_1 _ (by decide +kernel), inlX5, by decide, rfl⟩
theorem vF_X5_28 : z_FA vwCl wsL_law RX5 28 6 4 := ⟨(RX5, TX5, 16), rfl, wL_1 _ (by decide +kernel), inlX5, by decide, rfl⟩
theorem vF_X5_32 : z_FA vwCl wsL_law RX5 32 6 5 := ⟨(RX5, TX5, 16), rfl, wL_1 _ (by decide +kernel), inlX5, by decide, rfl⟩
theorem vF_X5_35 : z_FA vwCl wsL_law RX5 35 6 6 := ⟨(RX5, TX5, 16), rfl, wL_1 _ (by decide +kernel), inlX5, by decide, rfl⟩
theorem vF_X5_38 : z_FA vwCl wsL_law RX5 38 6 7 := ⟨(RX5, TX5, 16), rfl, wL_1 _ (by decide +kernel), inlX5, by decide, rfl⟩
theorem vF_X5_41 : z_FA vwCl wsL_law RX5 41 6 8 := ⟨(RX5, TX5, 16), rfl, wL_2 _ (by decide +kernel), inlX5, by decide, rfl⟩
theorem vF_X5_44 : z_FA vwCl wsL_law RX5 44 6 9 := ⟨(RX5, TX5, 16), rfl, wL_2 _ (by decide +kernel), inlX5, by decide, rfl⟩
theorem vF_X5_48 : z_FA vwCl wsL_law RX5 48 6 10 := ⟨(RX5, TX5, 16), rfl, wL_2 _ (by decide +kernel), inlX5, by decide, rfl⟩
theorem vF_X5_51 : z_FA vwCl wsL_law RX5 51 6 11 := ⟨(RX5, TX5, 16), rfl, wL_2 _ (by decide +kernel), inlX5, by decide, rfl⟩
theorem vN_X5_54 : z_FN vwCl wsL_law RX5 54 3 [.null, .int 0, .int 0, .int 0, .int 0] 5 := ⟨(RX2, TX2, 5), rfl, rfl, wL_2 _ (by decide +kernel), wL_2 _ (by decide +kernel), wL_2 _ (by decide +kernel), inlX2, tyX2, tyX2_ok, by decide +kernel⟩
theorem vC_X5_54 : Cond.classLink RX5 54 RX2 ∈ wsL_law := wL_2 _ (by decide +kernel)
theorem vF_X5_57 : z_FA vwCl wsL_law RX5 57 6 12 := ⟨(RX5, TX5, 16), rfl, wL_2 _ (by decide +kernel), inlX5, by decide, rfl⟩
theorem vF_X5_61 : z_FA vwCl wsL_law RX5 61 6 13 := ⟨(RX5, TX5, 16), rfl, wL_2 _ (by decide +kernel), inlX5, by decide, rfl⟩
theorem vN_X5_64 : z_FN vwCl wsL_law RX5 64 1 [.null, .int 0] 2 := ⟨(RX0, TX0, 2), rfl, rfl, wL_2 _ (by decide +kernel), wL_2 _ (by decide +kernel), wL_2 _ (by decide +kernel), inlX0, tyX0, tyX0_ok, by decide +kernel⟩
theorem vC_X5_64 : Cond.classLink RX5 64 RX0 ∈ wsL_law := wL_2 _ (by decide +kernel)
theorem vF_X5_67 : z_FA vwCl wsL_law RX5 67 6 14 := ⟨(RX5, TX5, 16), rfl, wL_2 _ (by decide +kernel), inlX5, by decide, rfl⟩
theorem vN_X5_71 : z_FN vwCl wsL_law RX5 71 5 [.int 0, .int 0, .int 0, .int 0] 4 := ⟨(RX4, TX4, 4), rfl, rfl, wL_2 _ (by decide +kernel), wL_2 _ (by decide +kernel), wL_2 _ (by decide +kernel), inlX4, tyX4, tyX4_ok, by decide +kernel⟩
theorem vC_X5_71 : Cond.classLink RX5 71 RX4 ∈ wsL_law := wL_2 _ (by decide +kernel)
theorem vF_X5_74 : z_FA vwCl wsL_law RX5 74 6 15 := ⟨(RX5, TX5, 16), rfl, wL_2 _ (by decide +kernel), inlX5, by decide, rfl⟩
theorem vM_X2_3 : Cond.methodLink RX2 3 objectInit ∈ wsL_law := wL_2 _ (by decide +kernel)
theorem vA_byte : Cond.arrayClass .byte ∈ wsL_law := wL_2 _ (by decide +kernel)
theorem vF_X2_9 : z_FA vwCl wsL_law RX2 9 3 0 := ⟨(RX2, TX2, 5), rfl, wL_2 _ (by decide +kernel), inlX2, by decide, rfl⟩
theorem vF_X2_15 : z_FA vwCl wsL_law RX2 15 3 1 := ⟨(RX2, TX2, 5), rfl, wL_2 _ (by decide +kernel), inlX2, by decide, rfl⟩
theorem vF_X2_19 : z_FA vwCl wsL_law RX2 19 3 2 := ⟨(RX2, TX2, 5), rfl, wL_2 _ (by decide +kernel), inlX2, by decide, rfl⟩
theorem vF_X2_23 : z_FA vwCl wsL_law RX2 23 3 3 := ⟨(RX2, TX2, 5), rfl, wL_3 _ (by decide +kernel), inlX2, by decide, rfl⟩
theorem vF_X2_26 : z_FA vwCl wsL_law RX2 26 3 4 := ⟨(RX2, TX2, 5), rfl, wL_3 _ (by decide +kernel), inlX2, by decide, rfl⟩
theorem vM_X0_3 : Cond.methodLink RX0 3 objectInit ∈ wsL_law := wL_3 _ (by decide +kernel)
theorem vF_X0_9 : z_FA vwCl wsL_law RX0 9 1 0 := ⟨(RX0, TX0, 2), rfl, wL_3 _ (by decide +kernel), inlX0, by decide, rfl⟩
theorem vF_X0_15 : z_FA vwCl wsL_law RX0 15 1 1 := ⟨(RX0, TX0, 2), rfl, wL_3 _ (by decide +kernel), inlX0, by decide, rfl⟩
theorem vM_X4_1 : Cond.methodLink RX4 1 objectInit ∈ wsL_law := wL_3 _ (by decide +kernel)
theorem vF_X4_7 : z_FA vwCl wsL_law RX4 7 5 0 := ⟨(RX4, TX4, 4), rfl, wL_3 _ (by decide +kernel), inlX4, by decide, rfl⟩
theorem vF_X4_13 : z_FA vwCl wsL_law RX4 13 5 1 := ⟨(RX4, TX4, 4), rfl, wL_3 _ (by decide +kernel), inlX4, by decide, rfl⟩
theorem vF_X4_17 : z_FA vwCl wsL_law RX4 17 5 2 := ⟨(RX4, TX4, 4), rfl, wL_3 _ (by decide +kernel), inlX4, by decide, rfl⟩
theorem vF_X4_20 : z_FA vwCl wsL_law RX4 20 5 3 := ⟨(RX4, TX4, 4), rfl, wL_3 _ (by decide +kernel), inlX4, by decide, rfl⟩
theorem vM_L_18 : Cond.methodLink RL 18 yX6_init ∈ wsL_law := wL_3 _ (by decide +kernel)
theorem vM_X6_1 : Cond.methodLink RX6 1 objectInit ∈ wsL_law := wL_3 _ (by decide +kernel)
theorem vF_X6_7 : z_FA vwCl wsL_law RX6 7 7 1 := ⟨(RX6, TX6, 43), rfl, wL_3 _ (by decide +kernel), inlX6, by decide, rfl⟩
theorem vF_X6_13 : z_FA vwCl wsL_law RX6 13 7 5 := ⟨(RX6, TX6, 43), rfl, wL_3 _ (by decide +kernel), inlX6, by decide, rfl⟩
theorem vF_X6_17 : z_FA vwCl wsL_law RX6 17 7 6 := ⟨(RX6, TX6, 43), rfl, wL_3 _ (by decide +kernel), inlX6, by decide, rfl⟩
theorem vA_int : Cond.arrayClass .int ∈ wsL_law := wL_3 _ (by decide +kernel)
theorem vF_X6_20 : z_FA vwCl wsL_law RX6 20 7 9 := ⟨(RX6, TX6, 43), rfl, wL_3 _ (by decide +kernel), inlX6, by decide, rfl⟩
theorem vF_X6_24 : z_FA vwCl wsL_law RX6 24 7 10 := ⟨(RX6, TX6, 43), rfl, wL_3 _ (by decide +kernel), inlX6, by decide, rfl⟩
theorem vF_X6_27 : z_FA vwCl wsL_law RX6 27 7 11 := ⟨(RX6, TX6, 43), rfl, wL_4 _ (by decide +kernel), inlX6, by decide, rfl⟩
theorem vF_X6_30 : z_FA vwCl wsL_law RX6 30 7 12 := ⟨(RX6, TX6, 43), rfl, wL_4 _ (by decide +kernel), inlX6, by decide, rfl⟩
theorem vF_X6_33 : z_FA vwCl wsL_law RX6 33 7 13 := ⟨(RX6, TX6, 43), rfl, wL_4 _ (by decide +kernel), inlX6, by decide, rfl⟩
theorem vA_boolean : Cond.arrayClass .boolean ∈ wsL_law := wL_4 _ (by decide +kernel)
theorem vF_X6_37 : z_FA vwCl wsL_law RX6 37 7 14 := ⟨(RX6, TX6, 43), rfl, wL_4 _ (by decide +kernel), inlX6, by decide, rfl⟩
theorem vF_X6_41 : z_FA vwCl wsL_law RX6 41 7 15 := ⟨(RX6, TX6, 43), rfl, wL_4 _ (by decide +kernel), inlX6, by decide, rfl⟩
theorem vF_X6_44 : z_FA vwCl wsL_law RX6 44 7 16 := ⟨(RX6, TX6, 43), rfl, wL_4 _ (by decide +kernel), inlX6, by decide, rfl⟩
theorem vF_X6_47 : z_FA vwCl wsL_law RX6 47 7 17 := ⟨(RX6, TX6, 43), rfl, wL_4 _ (by decide +kernel), inlX6, by decide, rfl⟩
theorem vF_X6_50 : z_FA vwCl wsL_law RX6 50 7 18 := ⟨(RX6, TX6, 43), rfl, wL_4 _ (by decide +kernel), inlX6, by decide, rfl⟩
theorem vF_X6_53 : z_FA vwCl wsL_law RX6 53 7 19 := ⟨(RX6, TX6, 43), rfl, wL_4 _ (by decide +kernel), inlX6, by decide, rfl⟩
theorem vF_X6_56 : z_FA vwCl wsL_law RX6 56 7 21 := ⟨(RX6, TX6, 43), rfl, wL_4 _ (by decide +kernel), inlX6, by decide, rfl⟩
theorem vF_X6_59 : z_FA vwCl wsL_law RX6 59 7 22 := ⟨(RX6, TX6, 43), rfl, wL_4 _ (by decide +kernel), inlX6, by decide, rfl⟩
theorem vF_X6_62 : z_FA vwCl wsL_law RX6 62 7 23 := ⟨(RX6, TX6, 43), rfl, wL_4 _ (by decide +kernel), inlX6, by decide, rfl⟩
theorem vF_X6_65 : z_FA vwCl wsL_law RX6 65 7 24 := ⟨(RX6, TX6, 43), rfl, wL_4 _ (by decide +kernel), inlX6, by decide, rfl⟩
theorem vF_X6_68 : z_FA vwCl wsL_law RX6 68 7 25 := ⟨(RX6, TX6, 43), rfl, wL_4 _ (by decide +kernel), inlX6, by decide, rfl⟩
theorem vF_X6_71 : z_FA vwCl wsL_law RX6 71 7 36 := ⟨(RX6, TX6, 43), rfl, wL_4 _ (by decide +kernel), inlX6, by decide, rfl⟩
theorem vF_X6_74 : z_FA vwCl wsL_law RX6 74 7 39 := ⟨(RX6, TX6, 43), rfl, wL_4 _ (by decide +kernel), inlX6, by decide, rfl⟩
theorem vF_X6_77 : z_FA vwCl wsL_law RX6 77 7 41 := ⟨(RX6, TX6, 43), rfl, wL_4 _ (by decide +kernel), inlX6, by decide, rfl⟩
theorem vF_X6_80 : z_FA vwCl wsL_law RX6 80 7 42 := ⟨(RX6, TX6, 43), rfl, wL_4 _ (by decide +kernel), inlX6, by decide, rfl⟩
theorem vM_L_19 : Cond.methodLink RL 19 yX5_identifier ∈ wsL_law := wL_4 _ (by decide +kernel)
theorem vK_X5_78 : Cond.constant RX5 78 (65535) ∈ wsL_law := wL_4 _ (by decide +kernel)
theorem vM_X5_79 : Cond.methodLink RX5 79 yX5_isWithin ∈ wsL_law := wL_5 _ (by decide +kernel)
theorem vM_X5_83 : Cond.methodLink RX5 83 yX5_findIdentifier ∈ wsL_law := wL_5 _ (by decide +kernel)
theorem vF_X5_166 : z_FA vwCl wsL_law RX5 166 2 0 := ⟨(RX1, TX1, 11), rfl, wL_5 _ (by decide +kernel), inlX1, by decide, rfl⟩
theorem vM_X5_87 : Cond.methodLink RX5 87 yX5_hasRoomForIdentifier ∈ wsL_law := wL_5 _ (by decide +kernel)
theorem vM_X5_91 : Cond.methodLink RX5 91 yX1_init ∈ wsL_law := wL_5 _ (by decide +kernel)
theorem vM_X1_3 : Cond.methodLink RX1 3 objectInit ∈ wsL_law := wL_5 _ (by decide +kernel)
theorem vF_X1_9 : z_FA vwCl wsL_law RX1 9 2 5 := ⟨(RX1, TX1, 11), rfl, wL_5 _ (by decide +kernel), inlX1, by decide, rfl⟩
theorem vF_X1_15 : z_FA vwCl wsL_law RX1 15 2 6 := ⟨(RX1, TX1, 11), rfl, wL_5 _ (by decide +kernel), inlX1, by decide, rfl⟩
theorem vF_X1_19 : z_FA vwCl wsL_law RX1 19 2 7 := ⟨(RX1, TX1, 11), rfl, wL_5 _ (by decide +kernel), inlX1, by decide, rfl⟩
theorem vF_X1_22 : z_FA vwCl wsL_law RX1 22 2 8 := ⟨(RX1, TX1, 11), rfl, wL_5 _ (by decide +kernel), inlX1, by decide, rfl⟩
theorem vF_X1_25 : z_FA vwCl wsL_law RX1 25 2 0 := ⟨(RX1, TX1, 11), rfl, wL_5 _ (by decide +kernel), inlX1, by decide, rfl⟩
theorem vF_X1_29 : z_FA vwCl wsL_law RX1 29 2 4 := ⟨(RX1, TX1, 11), rfl, wL_5 _ (by decide +kernel), inlX1, by decide, rfl⟩
theorem vF_X1_32 : z_FA vwCl wsL_law RX1 32 2 1 := ⟨(RX1, TX1, 11), rfl, wL_6 _ (by decide +kernel), inlX1, by decide, rfl⟩
theorem vF_X1_35 : z_FA vwCl wsL_law RX1 35 2 2 := ⟨(RX1, TX1, 11), rfl, wL_6 _ (by decide +kernel), inlX1, by decide, rfl⟩
theorem vF_X1_38 : z_FA vwCl wsL_law RX1 38 2 3 := ⟨(RX1, TX1, 11), rfl, wL_6 _ (by decide +kernel), inlX1, by decide, rfl⟩
theorem vN_X1_10 : z_FN vwCl wsL_law RX1 10 2 [.int 0, .int 0, .int 0, .int 0, .int 0, .int 0, .long 0, .int 0, .long 0, .null, .null] 11 := ⟨(RX1, TX1, 11), rfl, rfl, wL_6 _ (by decide +kernel), wL_5 _ (by decide +kernel), wL_5 _ (by decide +kernel), inlX1, tyX1, tyX1_ok, by decide +kernel⟩
theorem vC_X1_10 : Cond.classLink RX1 10 RX1 ∈ wsL_law := wL_6 _ (by decide +kernel)
theorem vF_X1_41 : z_FA vwCl wsL_law RX1 41 2 9 := ⟨(RX1, TX1, 11), rfl, wL_6 _ (by decide +kernel), inlX1, by decide, rfl⟩
theorem vF_X1_45 : z_FA vwCl wsL_law RX1 45 2 10 := ⟨(RX1, TX1, 11), rfl, wL_6 _ (by decide +kernel), inlX1, by decide, rfl⟩
theorem vM_X5_94 : Cond.methodLink RX5 94 yX5_addIdentifier ∈ wsL_law := wL_6 _ (by decide +kernel)
theorem vM_L_23 : Cond.methodLink RL 23 yX6_identifier ∈ wsL_law := wL_6 _ (by decide +kernel)
theorem vF_X6_83 : z_FA vwCl wsL_law RX6 83 7 0 := ⟨(RX6, TX6, 43), rfl, wL_6 _ (by decide +kernel), inlX6, by decide, rfl⟩
theorem vK_X6_89 : Cond.constantLong RX6 89 (65535) ∈ wsL_law := wL_6 _ (by decide +kernel)
theorem vK_X6_95 : Cond.constantLong RX6 95 (8) ∈ wsL_law := wL_6 _ (by decide +kernel)
theorem vK_X6_97 : Cond.constantLong RX6 97 (3) ∈ wsL_law := wL_6 _ (by decide +kernel)
theorem vF_X6_86 : z_FA vwCl wsL_law RX6 86 7 8 := ⟨(RX6, TX6, 43), rfl, wL_6 _ (by decide +kernel), inlX6, by decide, rfl⟩
theorem vM_X6_91 : Cond.methodLink RX6 91 yX6_isIn ∈ wsL_law := wL_6 _ (by decide +kernel)
theorem vM_X6_99 : Cond.methodLink RX6 99 yX6_find ∈ wsL_law := wL_6 _ (by decide +kernel)
theorem vM_X6_103 : Cond.methodLink RX6 103 yX6_add ∈ wsL_law := wL_7 _ (by decide +kernel)
theorem vM_L_24 : Cond.methodLink RL 24 yX5_dynamic ∈ wsL_law := wL_7 _ (by decide +kernel)
theorem vF_X5_98 : z_FA vwCl wsL_law RX5 98 2 4 := ⟨(RX1, TX1, 11), rfl, wL_7 _ (by decide +kernel), inlX1, by decide, rfl⟩
theorem vF_X5_101 : z_FA vwCl wsL_law RX5 101 2 3 := ⟨(RX1, TX1, 11), rfl, wL_7 _ (by decide +kernel), inlX1, by decide, rfl⟩
theorem vM_X5_104 : Cond.methodLink RX5 104 yX1_append ∈ wsL_law := wL_7 _ (by decide +kernel)
theorem vM_L_28 : Cond.methodLink RL 28 yX6_dynamic ∈ wsL_law := wL_7 _ (by decide +kernel)
theorem vM_L_29 : Cond.methodLink RL 29 yX5_routine ∈ wsL_law := wL_7 _ (by decide +kernel)
theorem vM_X5_108 : Cond.methodLink RX5 108 yX5_findRoutine ∈ wsL_law := wL_8 _ (by decide +kernel)
theorem vF_X5_169 : z_FA vwCl wsL_law RX5 169 4 0 := ⟨(RX3, TX3, 5), rfl, wL_8 _ (by decide +kernel), inlX3, by decide, rfl⟩
theorem vM_X5_112 : Cond.methodLink RX5 112 yX3_init ∈ wsL_law := wL_8 _ (by decide +kernel)
theorem vM_X3_1 : Cond.methodLink RX3 1 objectInit ∈ wsL_law := wL_8 _ (by decide +kernel)
theorem vF_X3_7 : z_FA vwCl wsL_law RX3 7 4 2 := ⟨(RX3, TX3, 5), rfl, wL_8 _ (by decide +kernel), inlX3, by decide, rfl⟩
theorem vF_X3_13 : z_FA vwCl wsL_law RX3 13 4 3 := ⟨(RX3, TX3, 5), rfl, wL_8 _ (by decide +kernel), inlX3, by decide, rfl⟩
theorem vF_X3_17 : z_FA vwCl wsL_law RX3 17 4 4 := ⟨(RX3, TX3, 5), rfl, wL_8 _ (by decide +kernel), inlX3, by decide, rfl⟩
theorem vF_X3_20 : z_FA vwCl wsL_law RX3 20 4 0 := ⟨(RX3, TX3, 5), rfl, wL_8 _ (by decide +kernel), inlX3, by decide, rfl⟩
theorem vF_X3_23 : z_FA vwCl wsL_law RX3 23 4 1 := ⟨(RX3, TX3, 5), rfl, wL_8 _ (by decide +kernel), inlX3, by decide, rfl⟩
theorem vM_L_33 : Cond.methodLink RL 33 yX6_routine ∈ wsL_law := wL_8 _ (by decide +kernel)
theorem vK_X6_107 : Cond.constantLong RX6 107 (100) ∈ wsL_law := wL_8 _ (by decide +kernel)
theorem vF_X6_109 : z_FA vwCl wsL_law RX6 109 7 20 := ⟨(RX6, TX6, 43), rfl, wL_8 _ (by decide +kernel), inlX6, by decide, rfl⟩
theorem vM_L_34 : Cond.methodLink RL 34 yX5_condition ∈ wsL_law := wL_8 _ (by decide +kernel)
theorem vM_L_38 : Cond.methodLink RL 38 yX6_condition ∈ wsL_law := wL_9 _ (by decide +kernel)
theorem vM_L_39 : Cond.methodLink RL 39 yX5_rights ∈ wsL_law := wL_9 _ (by decide +kernel)
theorem vM_L_43 : Cond.methodLink RL 43 yX6_rights ∈ wsL_law := wL_9 _ (by decide +kernel)
theorem vF_X6_112 : z_FA vwCl wsL_law RX6 112 7 2 := ⟨(RX6, TX6, 43), rfl, wL_9 _ (by decide +kernel), inlX6, by decide, rfl⟩
theorem vM_L_46 : Cond.methodLink RL 46 yX5_control ∈ wsL_law := wL_9 _ (by decide +kernel)
theorem vF_X5_115 : z_FA vwCl wsL_law RX5 115 2 6 := ⟨(RX1, TX1, 11), rfl, wL_9 _ (by decide +kernel), inlX1, by decide, rfl⟩
theorem vF_X5_118 : z_FA vwCl wsL_law RX5 118 2 5 := ⟨(RX1, TX1, 11), rfl, wL_9 _ (by decide +kernel), inlX1, by decide, rfl⟩
theorem vM_L_50 : Cond.methodLink RL 50 yX6_control ∈ wsL_law := wL_9 _ (by decide +kernel)
theorem vM_L_51 : Cond.methodLink RL 51 yX5_pending ∈ wsL_law := wL_10 _ (by decide +kernel)
theorem vM_L_54 : Cond.methodLink RL 54 yX6_pending ∈ wsL_law := wL_10 _ (by decide +kernel)
theorem vK_X6_115 : Cond.constantLong RX6 115 (10) ∈ wsL_law := wL_10 _ (by decide +kernel)
theorem vF_X6_117 : z_FA vwCl wsL_law RX6 117 7 7 := ⟨(RX6, TX6, 43), rfl, wL_10 _ (by decide +kernel), inlX6, by decide, rfl⟩
theorem vM_L_55 : Cond.methodLink RL 55 yX5_ask ∈ wsL_law := wL_10 _ (by decide +kernel)
theorem vF_X5_132 : z_FA vwCl wsL_law RX5 132 1 1 := ⟨(RX0, TX0, 2), rfl, wL_10 _ (by decide +kernel), inlX0, by decide, rfl⟩
theorem vM_X5_121 : Cond.methodLink RX5 121 yX2_take ∈ wsL_law := wL_10 _ (by decide +kernel)
theorem vM_X5_125 : Cond.methodLink RX5 125 yX2_isWhole ∈ wsL_law := wL_11 _ (by decide +kernel)
theorem vM_X5_128 : Cond.methodLink RX5 128 yX5_conclude ∈ wsL_law := wL_11 _ (by decide +kernel)
theorem vF_X5_184 : z_FA vwCl wsL_law RX5 184 3 4 := ⟨(RX2, TX2, 5), rfl, wL_11 _ (by decide +kernel), inlX2, by decide, rfl⟩
theorem vM_X5_177 : Cond.methodLink RX5 177 yX0_clear ∈ wsL_law := wL_11 _ (by decide +kernel)
theorem vM_X5_180 : Cond.methodLink RX5 180 yX5_serve ∈ wsL_law := wL_11 _ (by decide +kernel)
theorem vM_X5_203 : Cond.methodLink RX5 203 yX2_isEmpty ∈ wsL_law := wL_11 _ (by decide +kernel)
theorem vM_X5_193 : Cond.methodLink RX5 193 yX2_service ∈ wsL_law := wL_11 _ (by decide +kernel)
theorem vM_X5_206 : Cond.methodLink RX5 206 yX5_changeSession ∈ wsL_law := wL_12 _ (by decide +kernel)
theorem vM_X5_236 : Cond.methodLink RX5 236 yX2_size ∈ wsL_law := wL_12 _ (by decide +kernel)
theorem vM_X5_239 : Cond.methodLink RX5 239 yX2_function ∈ wsL_law := wL_12 _ (by decide +kernel)
theorem vM_X2_35 : Cond.methodLink RX2 35 yX2_octetAt ∈ wsL_law := wL_12 _ (by decide +kernel)
theorem vM_X5_158 : Cond.methodLink RX5 158 yX5_endSession ∈ wsL_law := wL_12 _ (by decide +kernel)
theorem vM_X5_171 : Cond.methodLink RX5 171 yX1_release ∈ wsL_law := wL_12 _ (by decide +kernel)
theorem vM_X5_174 : Cond.methodLink RX5 174 yX4_close ∈ wsL_law := wL_13 _ (by decide +kernel)
theorem vM_X5_242 : Cond.methodLink RX5 242 yX5_beginReply ∈ wsL_law := wL_13 _ (by decide +kernel)
theorem vM_X5_190 : Cond.methodLink RX5 190 yX0_put ∈ wsL_law := wL_13 _ (by decide +kernel)
theorem vM_X5_209 : Cond.methodLink RX5 209 yX5_reset ∈ wsL_law := wL_13 _ (by decide +kernel)
theorem vM_X5_245 : Cond.methodLink RX5 245 yX5_forgetRoutines ∈ wsL_law := wL_13 _ (by decide +kernel)
theorem vM_X5_251 : Cond.methodLink RX5 251 yX3_forget ∈ wsL_law := wL_13 _ (by decide +kernel)
theorem vM_X5_248 : Cond.methodLink RX5 248 yX5_clearOwnValues ∈ wsL_law := wL_14 _ (by decide +kernel)
theorem vM_X5_212 : Cond.methodLink RX5 212 yX5_read ∈ wsL_law := wL_14 _ (by decide +kernel)
theorem vF_X5_261 : z_FA vwCl wsL_law RX5 261 2 2 := ⟨(RX1, TX1, 11), rfl, wL_14 _ (by decide +kernel), inlX1, by decide, rfl⟩
theorem vM_X5_254 : Cond.methodLink RX5 254 yX2_word ∈ wsL_law := wL_14 _ (by decide +kernel)
theorem vM_X5_258 : Cond.methodLink RX5 258 yX5_findHere ∈ wsL_law := wL_14 _ (by decide +kernel)
theorem vF_X5_170 : z_FA vwCl wsL_law RX5 170 2 1 := ⟨(RX1, TX1, 11), rfl, wL_14 _ (by decide +kernel), inlX1, by decide, rfl⟩
theorem vM_X5_262 : Cond.methodLink RX5 262 yX5_replyOctetsOf ∈ wsL_law := wL_14 _ (by decide +kernel)
theorem vM_X5_265 : Cond.methodLink RX5 265 yX0_putWord ∈ wsL_law := wL_14 _ (by decide +kernel)
theorem vM_X0_19 : Cond.methodLink RX0 19 yX0_put ∈ wsL_law := wL_15 _ (by decide +kernel)
theorem vM_X5_268 : Cond.methodLink RX5 268 yX1_octetAt ∈ wsL_law := wL_15 _ (by decide +kernel)
theorem vM_X1_49 : Cond.methodLink RX1 49 yX1_ordinaryOctetAt ∈ wsL_law := wL_15 _ (by decide +kernel)
theorem vM_X5_215 : Cond.methodLink RX5 215 yX5_write ∈ wsL_law := wL_15 _ (by decide +kernel)
theorem vM_X5_270 : Cond.methodLink RX5 270 yX2_number ∈ wsL_law := wL_15 _ (by decide +kernel)
theorem vM_X5_218 : Cond.methodLink RX5 218 yX5_takeControl ∈ wsL_law := wL_15 _ (by decide +kernel)
theorem vM_X5_273 : Cond.methodLink RX5 273 yX2_octetAt ∈ wsL_law := wL_16 _ (by decide +kernel)
theorem vM_X5_274 : Cond.methodLink RX5 274 yX5_setControl ∈ wsL_law := wL_16 _ (by decide +kernel)
theorem vM_X5_278 : Cond.methodLink RX5 278 yX1_hold ∈ wsL_law := wL_16 _ (by decide +kernel)
theorem vM_X5_162 : Cond.methodLink RX5 162 yX1_number ∈ wsL_law := wL_16 _ (by decide +kernel)
theorem vM_X1_53 : Cond.methodLink RX1 53 yX1_octetAt ∈ wsL_law := wL_16 _ (by decide +kernel)
theorem vM_X5_221 : Cond.methodLink RX5 221 yX5_handleRoutine ∈ wsL_law := wL_16 _ (by decide +kernel)
theorem vF_X5_286 : z_FA vwCl wsL_law RX5 286 4 3 := ⟨(RX3, TX3, 5), rfl, wL_16 _ (by decide +kernel), inlX3, by decide, rfl⟩
theorem vM_X5_282 : Cond.methodLink RX5 282 yX5_applyToRoutine ∈ wsL_law := wL_16 _ (by decide +kernel)
theorem vF_X5_293 : z_FA vwCl wsL_law RX5 293 4 2 := ⟨(RX3, TX3, 5), rfl, wL_16 _ (by decide +kernel), inlX3, by decide, rfl⟩
theorem vM_X5_289 : Cond.methodLink RX5 289 yX5_startRoutine ∈ wsL_law := wL_16 _ (by decide +kernel)
theorem vM_X5_299 : Cond.methodLink RX5 299 yX3_start ∈ wsL_law := wL_17 _ (by decide +kernel)
theorem vM_X5_296 : Cond.methodLink RX5 296 yX5_askResult ∈ wsL_law := wL_17 _ (by decide +kernel)
theorem vF_X5_302 : z_FA vwCl wsL_law RX5 302 4 4 := ⟨(RX3, TX3, 5), rfl, wL_17 _ (by decide +kernel), inlX3, by decide, rfl⟩
theorem vM_X5_224 : Cond.methodLink RX5 224 yX5_openTransfer ∈ wsL_law := wL_17 _ (by decide +kernel)
theorem vF_X5_305 : z_FA vwCl wsL_law RX5 305 5 0 := ⟨(RX4, TX4, 4), rfl, wL_17 _ (by decide +kernel), inlX4, by decide, rfl⟩
theorem vM_X5_308 : Cond.methodLink RX5 308 yX4_open ∈ wsL_law := wL_17 _ (by decide +kernel)
theorem vM_X5_227 : Cond.methodLink RX5 227 yX5_takeBlock ∈ wsL_law := wL_17 _ (by decide +kernel)
theorem vF_X5_148 : z_FA vwCl wsL_law RX5 148 5 1 := ⟨(RX4, TX4, 4), rfl, wL_18 _ (by decide +kernel), inlX4, by decide, rfl⟩
theorem vM_X5_311 : Cond.methodLink RX5 311 yX4_isBlockBefore ∈ wsL_law := wL_18 _ (by decide +kernel)
theorem vM_X5_314 : Cond.methodLink RX5 314 yX4_nextBlock ∈ wsL_law := wL_18 _ (by decide +kernel)
theorem vM_X5_317 : Cond.methodLink RX5 317 yX4_add ∈ wsL_law := wL_18 _ (by decide +kernel)
theorem vK_X4_29 : Cond.constant RX4 29 (65535) ∈ wsL_law := wL_18 _ (by decide +kernel)
theorem vM_X4_23 : Cond.methodLink RX4 23 yX2_octetAt ∈ wsL_law := wL_18 _ (by decide +kernel)
theorem vM_X5_230 : Cond.methodLink RX5 230 yX5_closeTransfer ∈ wsL_law := wL_18 _ (by decide +kernel)
theorem vF_X5_321 : z_FA vwCl wsL_law RX5 321 5 2 := ⟨(RX4, TX4, 4), rfl, wL_18 _ (by decide +kernel), inlX4, by decide, rfl⟩
theorem vM_X5_233 : Cond.methodLink RX5 233 yX5_stayPresent ∈ wsL_law := wL_18 _ (by decide +kernel)
theorem vM_X5_187 : Cond.methodLink RX5 187 yX5_isKeptFromAll ∈ wsL_law := wL_19 _ (by decide +kernel)
theorem vM_X5_197 : Cond.methodLink RX5 197 yX2_wantsNoAnswer ∈ wsL_law := wL_19 _ (by decide +kernel)
theorem vM_X2_39 : Cond.methodLink RX2 39 yX2_service ∈ wsL_law := wL_19 _ (by decide +kernel)
theorem vM_X5_200 : Cond.methodLink RX5 200 yX2_end ∈ wsL_law := wL_19 _ (by decide +kernel)
theorem vM_L_59 : Cond.methodLink RL 59 yX6_ask ∈ wsL_law := wL_19 _ (by decide +kernel)
theorem vF_X6_206 : z_FA vwCl wsL_law RX6 206 7 33 := ⟨(RX6, TX6, 43), rfl, wL_19 _ (by decide +kernel), inlX6, by decide, rfl⟩
theorem vF_X6_209 : z_FA vwCl wsL_law RX6 209 7 32 := ⟨(RX6, TX6, 43), rfl, wL_19 _ (by decide +kernel), inlX6, by decide, rfl⟩
theorem vF_X6_212 : z_FA vwCl wsL_law RX6 212 7 34 := ⟨(RX6, TX6, 43), rfl, wL_19 _ (by decide +kernel), inlX6, by decide, rfl⟩
theorem vF_X6_215 : z_FA vwCl wsL_law RX6 215 7 35 := ⟨(RX6, TX6, 43), rfl, wL_19 _ (by decide +kernel), inlX6, by decide, rfl⟩
theorem vF_X6_203 : z_FA vwCl wsL_law RX6 203 7 37 := ⟨(RX6, TX6, 43), rfl, wL_19 _ (by decide +kernel), inlX6, by decide, rfl⟩
theorem vF_X6_138 : z_FA vwCl wsL_law RX6 138 7 38 := ⟨(RX6, TX6, 43), rfl, wL_19 _ (by decide +kernel), inlX6, by decide, rfl⟩
theorem vM_X6_218 : Cond.methodLink RX6 218 yX6_looked ∈ wsL_law := wL_19 _ (by decide +kernel)
theorem vF_X6_192 : z_FA vwCl wsL_law RX6 192 7 3 := ⟨(RX6, TX6, 43), rfl, wL_20 _ (by decide +kernel), inlX6, by decide, rfl⟩
theorem vF_X6_196 : z_FA vwCl wsL_law RX6 196 7 4 := ⟨(RX6, TX6, 43), rfl, wL_20 _ (by decide +kernel), inlX6, by decide, rfl⟩
theorem vF_X6_128 : z_FA vwCl wsL_law RX6 128 7 40 := ⟨(RX6, TX6, 43), rfl, wL_20 _ (by decide +kernel), inlX6, by decide, rfl⟩
theorem vM_X6_199 : Cond.methodLink RX6 199 yX6_served ∈ wsL_law := wL_20 _ (by decide +kernel)
theorem vF_X6_135 : z_FA vwCl wsL_law RX6 135 7 26 := ⟨(RX6, TX6, 43), rfl, wL_20 _ (by decide +kernel), inlX6, by decide, rfl⟩
theorem vK_X6_159 : Cond.constantLong RX6 159 (200) ∈ wsL_law := wL_20 _ (by decide +kernel)
theorem vF_X6_161 : z_FA vwCl wsL_law RX6 161 7 27 := ⟨(RX6, TX6, 43), rfl, wL_20 _ (by decide +kernel), inlX6, by decide, rfl⟩
theorem vF_X6_164 : z_FA vwCl wsL_law RX6 164 7 28 := ⟨(RX6, TX6, 43), rfl, wL_20 _ (by decide +kernel), inlX6, by decide, rfl⟩
theorem vF_X6_167 : z_FA vwCl wsL_law RX6 167 7 29 := ⟨(RX6, TX6, 43), rfl, wL_20 _ (by decide +kernel), inlX6, by decide, rfl⟩
theorem vF_X6_170 : z_FA vwCl wsL_law RX6 170 7 31 := ⟨(RX6, TX6, 43), rfl, wL_20 _ (by decide +kernel), inlX6, by decide, rfl⟩
theorem vM_X6_141 : Cond.methodLink RX6 141 yX6_ends ∈ wsL_law := wL_20 _ (by decide +kernel)
theorem vM_X6_131 : Cond.methodLink RX6 131 yX6_say ∈ wsL_law := wL_20 _ (by decide +kernel)
theorem vM_X6_144 : Cond.methodLink RX6 144 yX6_read ∈ wsL_law := wL_21 _ (by decide +kernel)
theorem vM_X6_156 : Cond.methodLink RX6 156 yX6_told ∈ wsL_law := wL_21 _ (by decide +kernel)
theorem vM_X6_180 : Cond.methodLink RX6 180 yX6_isHere ∈ wsL_law := wL_21 _ (by decide +kernel)
theorem vM_X6_120 : Cond.methodLink RX6 120 yX6_octet ∈ wsL_law := wL_21 _ (by decide +kernel)
theorem vM_X6_147 : Cond.methodLink RX6 147 yX6_write ∈ wsL_law := wL_21 _ (by decide +kernel)
theorem vM_X6_184 : Cond.methodLink RX6 184 yX6_number ∈ wsL_law := wL_21 _ (by decide +kernel)
theorem vM_X6_176 : Cond.methodLink RX6 176 yX6_threeSaid ∈ wsL_law := wL_22 _ (by decide +kernel)
theorem vM_X6_150 : Cond.methodLink RX6 150 yX6_controls ∈ wsL_law := wL_22 _ (by decide +kernel)
theorem vM_X6_124 : Cond.methodLink RX6 124 yX6_valueOf ∈ wsL_law := wL_22 _ (by decide +kernel)
theorem vM_X6_153 : Cond.methodLink RX6 153 yX6_runs ∈ wsL_law := wL_22 _ (by decide +kernel)
theorem vM_X6_173 : Cond.methodLink RX6 173 yX6_takes ∈ wsL_law := wL_22 _ (by decide +kernel)
theorem vF_X6_188 : z_FA vwCl wsL_law RX6 188 7 30 := ⟨(RX6, TX6, 43), rfl, wL_22 _ (by decide +kernel), inlX6, by decide, rfl⟩
theorem vK_X6_191 : Cond.constant RX6 191 (65536) ∈ wsL_law := wL_22 _ (by decide +kernel)
theorem vM_L_60 : Cond.methodLink RL 60 yL_answer ∈ wsL_law := wL_22 _ (by decide +kernel)
theorem vM_L_7 : Cond.methodLink RL 7 yX5_answer ∈ wsL_law := wL_23 _ (by decide +kernel)
theorem vC_X5_137 : Cond.classLink RX5 137 RJx00060 ∈ wsL_law := wL_23 _ (by decide +kernel)
theorem vM_X5_133 : Cond.methodLink RX5 133 yX0_has ∈ wsL_law := wL_23 _ (by decide +kernel)
theorem vM_X5_144 : Cond.methodLink RX5 144 yX0_octetAt ∈ wsL_law := wL_23 _ (by decide +kernel)
theorem vM_X0_23 : Cond.methodLink RX0 23 yX0_has ∈ wsL_law := wL_23 _ (by decide +kernel)
theorem vM_L_65 : Cond.methodLink RL 65 yX6_answer ∈ wsL_law := wL_23 _ (by decide +kernel)
theorem vM_L_66 : Cond.methodLink RL 66 yX6_thrown ∈ wsL_law := wL_23 _ (by decide +kernel)
theorem vM_L_70 : Cond.methodLink RL 70 yX5_code ∈ wsL_law := wL_24 _ (by decide +kernel)
theorem vM_L_73 : Cond.methodLink RL 73 yX6_code ∈ wsL_law := wL_24 _ (by decide +kernel)
theorem vM_L_74 : Cond.methodLink RL 74 yX5_transfer ∈ wsL_law := wL_24 _ (by decide +kernel)
theorem vM_L_78 : Cond.methodLink RL 78 yX6_transfer ∈ wsL_law := wL_24 _ (by decide +kernel)
theorem vM_L_79 : Cond.methodLink RL 79 yX5_tick ∈ wsL_law := wL_24 _ (by decide +kernel)
theorem vK_X5_151 : Cond.constantLong RX5 151 (1152921504606846976) ∈ wsL_law := wL_24 _ (by decide +kernel)
theorem vK_X5_156 : Cond.constantLong RX5 156 (5000) ∈ wsL_law := wL_24 _ (by decide +kernel)
theorem vM_X5_153 : Cond.methodLink RX5 153 yX3_step ∈ wsL_law := wL_25 _ (by decide +kernel)
theorem vM_L_83 : Cond.methodLink RL 83 yX6_tick ∈ wsL_law := wL_25 _ (by decide +kernel)
theorem vK_X6_221 : Cond.constantLong RX6 221 (1152921504606846976) ∈ wsL_law := wL_25 _ (by decide +kernel)
theorem vK_X6_223 : Cond.constantLong RX6 223 (5000) ∈ wsL_law := wL_25 _ (by decide +kernel)
theorem vM_L_84 : Cond.methodLink RL 84 yX5_value ∈ wsL_law := wL_25 _ (by decide +kernel)
theorem vM_L_88 : Cond.methodLink RL 88 yX6_value ∈ wsL_law := wL_25 _ (by decide +kernel)
theorem vI_X5_init : z_FI wsL_law yX5_init cX5_init 1 none := ⟨wL_1 _ (by decide +kernel), wL_1 _ (by decide +kernel), by decide +kernel, by decide +kernel⟩
theorem vV_X5_init : Cond.instanceMethod yX5_init ∈ wsL_law := wL_1 _ (by decide +kernel)
theorem vI_X2_init : z_FI wsL_law yX2_init cX2_init 1 none := ⟨wL_2 _ (by decide +kernel), wL_2 _ (by decide +kernel), by decide +kernel, by decide +kernel⟩
theorem vV_X2_init : Cond.instanceMethod yX2_init ∈ wsL_law := wL_2 _ (by decide +kernel)
theorem vI_X0_init : z_FI wsL_law yX0_init cX0_init 1 none := ⟨wL_3 _ (by decide +kernel), wL_2 _ (by decide +kernel), by decide +kernel, by decide +kernel⟩
theorem vV_X0_init : Cond.instanceMethod yX0_init ∈ wsL_law := wL_3 _ (by decide +kernel)
theorem vI_X4_init : z_FI wsL_law yX4_init cX4_init 1 none := ⟨wL_3 _ (by decide +kernel), wL_2 _ (by decide +kernel), by decide +kernel, by decide +kernel⟩
theorem vV_X4_init : Cond.instanceMethod yX4_init ∈ wsL_law := wL_3 _ (by decide +kernel)
theorem vI_X6_init : z_FI wsL_law yX6_init cX6_init 1 none := ⟨wL_3 _ (by decide +kernel), wL_1 _ (by decide +kernel), by decide +kernel, by decide +kernel⟩
theorem vV_X6_init : Cond.instanceMethod yX6_init ∈ wsL_law := wL_3 _ (by decide +kernel)
theorem vI_X5_identifier : z_FI wsL_law yX5_identifier cX5_identifier 5 (some .int) := ⟨wL_4 _ (by decide +kernel), wL_1 _ (by decide +kernel), by decide +kernel, by decide +kernel⟩
theorem vV_X5_identifier : Cond.instanceMethod yX5_identifier ∈ wsL_law := wL_4 _ (by decide +kernel)
theorem vL_X5_identifier : Cond.selects RX5 yX5_identifier yX5_identifier ∈ wsL_law := wL_4 _ (by decide +kernel)
theorem vI_X5_isWithin : z_FI wsL_law yX5_isWithin cX5_isWithin 3 (some .boolean) := ⟨wL_5 _ (by decide +kernel), wL_1 _ (by decide +kernel), by decide +kernel, by decide +kernel⟩
theorem vS_X5_isWithin : Cond.static yX5_isWithin ∈ wsL_law := wL_5 _ (by decide +kernel)
theorem vI_X5_findIdentifier : z_FI wsL_law yX5_findIdentifier cX5_findIdentifier 4 (some (.object "ServiceRows2$Identifier")) := ⟨wL_5 _ (by decide +kernel), wL_1 _ (by decide +kernel), by decide +kernel, by decide +kernel⟩
theorem vV_X5_findIdentifier : Cond.instanceMethod yX5_findIdentifier ∈ wsL_law := wL_5 _ (by decide +kernel)
theorem vL_X5_findIdentifier : Cond.selects RX5 yX5_findIdentifier yX5_findIdentifier ∈ wsL_law := wL_5 _ (by decide +kernel)
theorem vI_X5_hasRoomForIdentifier : z_FI wsL_law yX5_hasRoomForIdentifier cX5_hasRoomForIdentifier 1 (some .boolean) := ⟨wL_5 _ (by decide +kernel), wL_1 _ (by decide +kernel), by decide +kernel, by decide +kernel⟩
theorem vV_X5_hasRoomForIdentifier : Cond.instanceMethod yX5_hasRoomForIdentifier ∈ wsL_law := wL_5 _ (by decide +kernel)
theorem vL_X5_hasRoomForIdentifier : Cond.selects RX5 yX5_hasRoomForIdentifier yX5_hasRoomForIdentifier ∈ wsL_law := wL_5 _ (by decide +kernel)
theorem vI_X1_init : z_FI wsL_law yX1_init cX1_init 6 none := ⟨wL_5 _ (by decide +kernel), wL_5 _ (by decide +kernel), by decide +kernel, by decide +kernel⟩
theorem vV_X1_init : Cond.instanceMethod yX1_init ∈ wsL_law := wL_5 _ (by decide +kernel)
theorem vI_X5_addIdentifier : z_FI wsL_law yX5_addIdentifier cX5_addIdentifier 2 none := ⟨wL_6 _ (by decide +kernel), wL_1 _ (by decide +kernel), by decide +kernel, by decide +kernel⟩
theorem vV_X5_addIdentifier : Cond.instanceMethod yX5_addIdentifier ∈ wsL_law := wL_6 _ (by decide +kernel)
theorem vL_X5_addIdentifier : Cond.selects RX5 yX5_addIdentifier yX5_addIdentifier ∈ wsL_law := wL_6 _ (by decide +kernel)
theorem vI_X6_identifier : z_FI wsL_law yX6_identifier cX6_identifier 5 (some .int) := ⟨wL_6 _ (by decide +kernel), wL_1 _ (by decide +kernel), by decide +kernel, by decide +kernel⟩
theorem vV_X6_identifier : Cond.instanceMethod yX6_identifier ∈ wsL_law := wL_6 _ (by decide +kernel)
theorem vL_X6_identifier : Cond.selects RX6 yX6_identifier yX6_identifier ∈ wsL_law := wL_6 _ (by decide +kernel)
theorem vI_X6_isIn : z_FI wsL_law yX6_isIn cX6_isIn 6 (some .boolean) := ⟨wL_6 _ (by decide +kernel), wL_1 _ (by decide +kernel), by decide +kernel, by decide +kernel⟩
theorem vS_X6_isIn : Cond.static yX6_isIn ∈ wsL_law := wL_6 _ (by decide +kernel)
theorem vI_X6_find : z_FI wsL_law yX6_find cX6_find 3 (some .int) := ⟨wL_7 _ (by decide +kernel), wL_1 _ (by decide +kernel), by decide +kernel, by decide +kernel⟩
theorem vV_X6_find : Cond.instanceMethod yX6_find ∈ wsL_law := wL_6 _ (by decide +kernel)
theorem vL_X6_find : Cond.selects RX6 yX6_find yX6_find ∈ wsL_law := wL_7 _ (by decide +kernel)
theorem vI_X6_add : z_FI wsL_law yX6_add cX6_add 5 (some .int) := ⟨wL_7 _ (by decide +kernel), wL_1 _ (by decide +kernel), by decide +kernel, by decide +kernel⟩
theorem vV_X6_add : Cond.instanceMethod yX6_add ∈ wsL_law := wL_7 _ (by decide +kernel)
theorem vL_X6_add : Cond.selects RX6 yX6_add yX6_add ∈ wsL_law := wL_7 _ (by decide +kernel)
theorem vI_X5_dynamic : z_FI wsL_law yX5_dynamic cX5_dynamic 6 (some .int) := ⟨wL_7 _ (by decide +kernel), wL_1 _ (by decide +kernel), by decide +kernel, by decide +kernel⟩
theorem vV_X5_dynamic : Cond.instanceMethod yX5_dynamic ∈ wsL_law := wL_7 _ (by decide +kernel)
theorem vL_X5_dynamic : Cond.selects RX5 yX5_dynamic yX5_dynamic ∈ wsL_law := wL_7 _ (by decide +kernel)
theorem vI_X1_append : z_FI wsL_law yX1_append cX1_append 4 none := ⟨wL_7 _ (by decide +kernel), wL_5 _ (by decide +kernel), by decide +kernel, by decide +kernel⟩
theorem vV_X1_append : Cond.instanceMethod yX1_append ∈ wsL_law := wL_7 _ (by decide +kernel)
theorem vL_X1_append : Cond.selects RX1 yX1_append yX1_append ∈ wsL_law := wL_7 _ (by decide +kernel)
theorem vI_X6_dynamic : z_FI wsL_law yX6_dynamic cX6_dynamic 8 (some .int) := ⟨wL_7 _ (by decide +kernel), wL_1 _ (by decide +kernel), by decide +kernel, by decide +kernel⟩
theorem vV_X6_dynamic : Cond.instanceMethod yX6_dynamic ∈ wsL_law := wL_7 _ (by decide +kernel)
theorem vL_X6_dynamic : Cond.selects RX6 yX6_dynamic yX6_dynamic ∈ wsL_law := wL_7 _ (by decide +kernel)
theorem vI_X5_routine : z_FI wsL_law yX5_routine cX5_routine 3 (some .int) := ⟨wL_7 _ (by decide +kernel), wL_1 _ (by decide +kernel), by decide +kernel, by decide +kernel⟩
theorem vV_X5_routine : Cond.instanceMethod yX5_routine ∈ wsL_law := wL_7 _ (by decide +kernel)
theorem vL_X5_routine : Cond.selects RX5 yX5_routine yX5_routine ∈ wsL_law := wL_7 _ (by decide +kernel)
theorem vI_X5_findRoutine : z_FI wsL_law yX5_findRoutine cX5_findRoutine 4 (some (.object "ServiceRows2$Routine")) := ⟨wL_8 _ (by decide +kernel), wL_1 _ (by decide +kernel), by decide +kernel, by decide +kernel⟩
theorem vV_X5_findRoutine : Cond.instanceMethod yX5_findRoutine ∈ wsL_law := wL_8 _ (by decide +kernel)
theorem vL_X5_findRoutine : Cond.selects RX5 yX5_findRoutine yX5_findRoutine ∈ wsL_law := wL_8 _ (by decide +kernel)
theorem vI_X3_init : z_FI wsL_law yX3_init cX3_init 3 none := ⟨wL_8 _ (by decide +kernel), wL_8 _ (by decide +kernel), by decide +kernel, by decide +kernel⟩
theorem vV_X3_init : Cond.instanceMethod yX3_init ∈ wsL_law := wL_8 _ (by decide +kernel)
theorem vI_X6_routine : z_FI wsL_law yX6_routine cX6_routine 4 (some .int) := ⟨wL_8 _ (by decide +kernel), wL_1 _ (by decide +kernel), by decide +kernel, by decide +kernel⟩
theorem vV_X6_routine : Cond.instanceMethod yX6_routine ∈ wsL_law := wL_8 _ (by decide +kernel)
theorem vL_X6_routine : Cond.selects RX6 yX6_routine yX6_routine ∈ wsL_law := wL_8 _ (by decide +kernel)
theorem vI_X5_condition : z_FI wsL_law yX5_condition cX5_condition 3 (some .int) := ⟨wL_9 _ (by decide +kernel), wL_1 _ (by decide +kernel), by decide +kernel, by decide +kernel⟩
theorem vV_X5_condition : Cond.instanceMethod yX5_condition ∈ wsL_law := wL_8 _ (by decide +kernel)
theorem vL_X5_condition : Cond.selects RX5 yX5_condition yX5_condition ∈ wsL_law := wL_9 _ (by decide +kernel)
theorem vI_X6_condition : z_FI wsL_law yX6_condition cX6_condition 3 (some .int) := ⟨wL_9 _ (by decide +kernel), wL_1 _ (by decide +kernel), by decide +kernel, by decide +kernel⟩
theorem vV_X6_condition : Cond.instanceMethod yX6_condition ∈ wsL_law := wL_9 _ (by decide +kernel)
theorem vL_X6_condition : Cond.selects RX6 yX6_condition yX6_condition ∈ wsL_law := wL_9 _ (by decide +kernel)
theorem vI_X5_rights : z_FI wsL_law yX5_rights cX5_rights 3 (some .int) := ⟨wL_9 _ (by decide +kernel), wL_1 _ (by decide +kernel), by decide +kernel, by decide +kernel⟩
theorem vV_X5_rights : Cond.instanceMethod yX5_rights ∈ wsL_law := wL_9 _ (by decide +kernel)
theorem vL_X5_rights : Cond.selects RX5 yX5_rights yX5_rights ∈ wsL_law := wL_9 _ (by decide +kernel)
theorem vI_X6_rights : z_FI wsL_law yX6_rights cX6_rights 3 (some .int) := ⟨wL_9 _ (by decide +kernel), wL_1 _ (by decide +kernel), by decide +kernel, by decide +kernel⟩
theorem vV_X6_rights : Cond.instanceMethod yX6_rights ∈ wsL_law := wL_9 _ (by decide +kernel)
theorem vL_X6_rights : Cond.selects RX6 yX6_rights yX6_rights ∈ wsL_law := wL_9 _ (by decide +kernel)
theorem vI_X5_control : z_FI wsL_law yX5_control cX5_control 6 (some .int) := ⟨wL_9 _ (by decide +kernel), wL_1 _ (by decide +kernel), by decide +kernel, by decide +kernel⟩
theorem vV_X5_control : Cond.instanceMethod yX5_control ∈ wsL_law := wL_9 _ (by decide +kernel)
theorem vL_X5_control : Cond.selects RX5 yX5_control yX5_control ∈ wsL_law := wL_9 _ (by decide +kernel)
theorem vI_X6_control : z_FI wsL_law yX6_control cX6_control 6 (some .int) := ⟨wL_10 _ (by decide +kernel), wL_1 _ (by decide +kernel), by decide +kernel, by decide +kernel⟩
theorem vV_X6_control : Cond.instanceMethod yX6_control ∈ wsL_law := wL_9 _ (by decide +kernel)
theorem vL_X6_control : Cond.selects RX6 yX6_control yX6_control ∈ wsL_law := wL_9 _ (by decide +kernel)
theorem vI_X5_pending : z_FI wsL_law yX5_pending cX5_pending 3 (some .int) := ⟨wL_10 _ (by decide +kernel), wL_1 _ (by decide +kernel), by decide +kernel, by decide +kernel⟩
theorem vV_X5_pending : Cond.instanceMethod yX5_pending ∈ wsL_law := wL_10 _ (by decide +kernel)
theorem vL_X5_pending : Cond.selects RX5 yX5_pending yX5_pending ∈ wsL_law := wL_10 _ (by decide +kernel)
theorem vI_X6_pending : z_FI wsL_law yX6_pending cX6_pending 3 (some .int) := ⟨wL_10 _ (by decide +kernel), wL_1 _ (by decide +kernel), by decide +kernel, by decide +kernel⟩
theorem vV_X6_pending : Cond.instanceMethod yX6_pending ∈ wsL_law := wL_10 _ (by decide +kernel)
theorem vL_X6_pending : Cond.selects RX6 yX6_pending yX6_pending ∈ wsL_law := wL_10 _ (by decide +kernel)
theorem vI_X5_ask : z_FI wsL_law yX5_ask cX5_ask 2 (some .int) := ⟨wL_10 _ (by decide +kernel), wL_1 _ (by decide +kernel), by decide +kernel, by decide +kernel⟩
theorem vV_X5_ask : Cond.instanceMethod yX5_ask ∈ wsL_law := wL_10 _ (by decide +kernel)
theorem vL_X5_ask : Cond.selects RX5 yX5_ask yX5_ask ∈ wsL_law := wL_10 _ (by decide +kernel)
theorem vI_X2_take : z_FI wsL_law yX2_take cX2_take 2 none := ⟨wL_10 _ (by decide +kernel), wL_2 _ (by decide +kernel), by decide +kernel, by decide +kernel⟩
theorem vV_X2_take : Cond.instanceMethod yX2_take ∈ wsL_law := wL_10 _ (by decide +kernel)
theorem vL_X2_take : Cond.selects RX2 yX2_take yX2_take ∈ wsL_law := wL_10 _ (by decide +kernel)
theorem vI_X2_isWhole : z_FI wsL_law yX2_isWhole cX2_isWhole 1 (some .boolean) := ⟨wL_11 _ (by decide +kernel), wL_2 _ (by decide +kernel), by decide +kernel, by decide +kernel⟩
theorem vV_X2_isWhole : Cond.instanceMethod yX2_isWhole ∈ wsL_law := wL_11 _ (by decide +kernel)
theorem vL_X2_isWhole : Cond.selects RX2 yX2_isWhole yX2_isWhole ∈ wsL_law := wL_11 _ (by decide +kernel)
theorem vI_X5_conclude : z_FI wsL_law yX5_conclude cX5_conclude 2 none := ⟨wL_11 _ (by decide +kernel), wL_1 _ (by decide +kernel), by decide +kernel, by decide +kernel⟩
theorem vV_X5_conclude : Cond.instanceMethod yX5_conclude ∈ wsL_law := wL_11 _ (by decide +kernel)
theorem vL_X5_conclude : Cond.selects RX5 yX5_conclude yX5_conclude ∈ wsL_law := wL_11 _ (by decide +kernel)
theorem vI_X0_clear : z_FI wsL_law yX0_clear cX0_clear 1 none := ⟨wL_11 _ (by decide +kernel), wL_2 _ (by decide +kernel), by decide +kernel, by decide +kernel⟩
theorem vV_X0_clear : Cond.instanceMethod yX0_clear ∈ wsL_law := wL_11 _ (by decide +kernel)
theorem vL_X0_clear : Cond.selects RX0 yX0_clear yX0_clear ∈ wsL_law := wL_11 _ (by decide +kernel)
theorem vI_X5_serve : z_FI wsL_law yX5_serve cX5_serve 2 (some .int) := ⟨wL_11 _ (by decide +kernel), wL_1 _ (by decide +kernel), by decide +kernel, by decide +kernel⟩
theorem vV_X5_serve : Cond.instanceMethod yX5_serve ∈ wsL_law := wL_11 _ (by decide +kernel)
theorem vL_X5_serve : Cond.selects RX5 yX5_serve yX5_serve ∈ wsL_law := wL_11 _ (by decide +kernel)
theorem vI_X2_isEmpty : z_FI wsL_law yX2_isEmpty cX2_isEmpty 1 (some .boolean) := ⟨wL_11 _ (by decide +kernel), wL_2 _ (by decide +kernel), by decide +kernel, by decide +kernel⟩
theorem vV_X2_isEmpty : Cond.instanceMethod yX2_isEmpty ∈ wsL_law := wL_11 _ (by decide +kernel)
theorem vL_X2_isEmpty : Cond.selects RX2 yX2_isEmpty yX2_isEmpty ∈ wsL_law := wL_11 _ (by decide +kernel)
theorem vI_X2_service : z_FI wsL_law yX2_service cX2_service 1 (some .int) := ⟨wL_12 _ (by decide +kernel), wL_2 _ (by decide +kernel), by decide +kernel, by decide +kernel⟩
theorem vV_X2_service : Cond.instanceMethod yX2_service ∈ wsL_law := wL_11 _ (by decide +kernel)
theorem vL_X2_service : Cond.selects RX2 yX2_service yX2_service ∈ wsL_law := wL_11 _ (by decide +kernel)
theorem vI_X5_changeSession : z_FI wsL_law yX5_changeSession cX5_changeSession 3 (some .int) := ⟨wL_12 _ (by decide +kernel), wL_1 _ (by decide +kernel), by decide +kernel, by decide +kernel⟩
theorem vV_X5_changeSession : Cond.instanceMethod yX5_changeSession ∈ wsL_law := wL_12 _ (by decide +kernel)
theorem vL_X5_changeSession : Cond.selects RX5 yX5_changeSession yX5_changeSession ∈ wsL_law := wL_12 _ (by decide +kernel)
theorem vI_X2_size : z_FI wsL_law yX2_size cX2_size 1 (some .int) := ⟨wL_12 _ (by decide +kernel), wL_2 _ (by decide +kernel), by decide +kernel, by decide +kernel⟩
theorem vV_X2_size : Cond.instanceMethod yX2_size ∈ wsL_law := wL_12 _ (by decide +kernel)
theorem vL_X2_size : Cond.selects RX2 yX2_size yX2_size ∈ wsL_law := wL_12 _ (by decide +kernel)
theorem vI_X2_function : z_FI wsL_law yX2_function cX2_function 1 (some .int) := ⟨wL_12 _ (by decide +kernel), wL_2 _ (by decide +kernel), by decide +kernel, by decide +kernel⟩
theorem vV_X2_function : Cond.instanceMethod yX2_function ∈ wsL_law := wL_12 _ (by decide +kernel)
theorem vL_X2_function : Cond.selects RX2 yX2_function yX2_function ∈ wsL_law := wL_12 _ (by decide +kernel)
theorem vI_X2_octetAt : z_FI wsL_law yX2_octetAt cX2_octetAt 3 (some .int) := ⟨wL_12 _ (by decide +kernel), wL_2 _ (by decide +kernel), by decide +kernel, by decide +kernel⟩
theorem vV_X2_octetAt : Cond.instanceMethod yX2_octetAt ∈ wsL_law := wL_12 _ (by decide +kernel)
theorem vL_X2_octetAt : Cond.selects RX2 yX2_octetAt yX2_octetAt ∈ wsL_law := wL_12 _ (by decide +kernel)
theorem vI_X5_endSession : z_FI wsL_law yX5_endSession cX5_endSession 4 none := ⟨wL_12 _ (by decide +kernel), wL_1 _ (by decide +kernel), by decide +kernel, by decide +kernel⟩
theorem vV_X5_endSession : Cond.instanceMethod yX5_endSession ∈ wsL_law := wL_12 _ (by decide +kernel)
theorem vL_X5_endSession : Cond.selects RX5 yX5_endSession yX5_endSession ∈ wsL_law := wL_12 _ (by decide +kernel)
theorem vI_X1_release : z_FI wsL_law yX1_release cX1_release 1 none := ⟨wL_13 _ (by decide +kernel), wL_5 _ (by decide +kernel), by decide +kernel, by decide +kernel⟩
theorem vV_X1_release : Cond.instanceMethod yX1_release ∈ wsL_law := wL_12 _ (by decide +kernel)
theorem vL_X1_release : Cond.selects RX1 yX1_release yX1_release ∈ wsL_law := wL_12 _ (by decide +kernel)
theorem vI_X4_close : z_FI wsL_law yX4_close cX4_close 1 none := ⟨wL_13 _ (by decide +kernel), wL_2 _ (by decide +kernel), by decide +kernel, by decide +kernel⟩
theorem vV_X4_close : Cond.instanceMethod yX4_close ∈ wsL_law := wL_13 _ (by decide +kernel)
theorem vL_X4_close : Cond.selects RX4 yX4_close yX4_close ∈ wsL_law := wL_13 _ (by decide +kernel)
theorem vI_X5_beginReply : z_FI wsL_law yX5_beginReply cX5_beginReply 2 none := ⟨wL_13 _ (by decide +kernel), wL_1 _ (by decide +kernel), by decide +kernel, by decide +kernel⟩
theorem vV_X5_beginReply : Cond.instanceMethod yX5_beginReply ∈ wsL_law := wL_13 _ (by decide +kernel)
theorem vL_X5_beginReply : Cond.selects RX5 yX5_beginReply yX5_beginReply ∈ wsL_law := wL_13 _ (by decide +kernel)
theorem vI_X0_put : z_FI wsL_law yX0_put cX0_put 2 none := ⟨wL_13 _ (by decide +kernel), wL_2 _ (by decide +kernel), by decide +kernel, by decide +kernel⟩
theorem vV_X0_put : Cond.instanceMethod yX0_put ∈ wsL_law := wL_13 _ (by decide +kernel)
theorem vL_X0_put : Cond.selects RX0 yX0_put yX0_put ∈ wsL_law := wL_13 _ (by decide +kernel)
theorem vI_X5_reset : z_FI wsL_law yX5_reset cX5_reset 3 (some .int) := ⟨wL_13 _ (by decide +kernel), wL_1 _ (by decide +kernel), by decide +kernel, by decide +kernel⟩
theorem vV_X5_reset : Cond.instanceMethod yX5_reset ∈ wsL_law := wL_13 _ (by decide +kernel)
theorem vL_X5_reset : Cond.selects RX5 yX5_reset yX5_reset ∈ wsL_law := wL_13 _ (by decide +kernel)
theorem vI_X5_forgetRoutines : z_FI wsL_law yX5_forgetRoutines cX5_forgetRoutines 3 none := ⟨wL_13 _ (by decide +kernel), wL_1 _ (by decide +kernel), by decide +kernel, by decide +kernel⟩
theorem vV_X5_forgetRoutines : Cond.instanceMethod yX5_forgetRoutines ∈ wsL_law := wL_13 _ (by decide +kernel)
theorem vL_X5_forgetRoutines : Cond.selects RX5 yX5_forgetRoutines yX5_forgetRoutines ∈ wsL_law := wL_13 _ (by decide +kernel)
theorem vI_X3_forget : z_FI wsL_law yX3_forget cX3_forget 1 none := ⟨wL_14 _ (by decide +kernel), wL_8 _ (by decide +kernel), by decide +kernel, by decide +kernel⟩
theorem vV_X3_forget : Cond.instanceMethod yX3_forget ∈ wsL_law := wL_13 _ (by decide +kernel)
theorem vL_X3_forget : Cond.selects RX3 yX3_forget yX3_forget ∈ wsL_law := wL_13 _ (by decide +kernel)
theorem vI_X5_clearOwnValues : z_FI wsL_law yX5_clearOwnValues cX5_clearOwnValues 3 none := ⟨wL_14 _ (by decide +kernel), wL_1 _ (by decide +kernel), by decide +kernel, by decide +kernel⟩
theorem vV_X5_clearOwnValues : Cond.instanceMethod yX5_clearOwnValues ∈ wsL_law := wL_14 _ (by decide +kernel)
theorem vL_X5_clearOwnValues : Cond.selects RX5 yX5_clearOwnValues yX5_clearOwnValues ∈ wsL_law := wL_14 _ (by decide +kernel)
theorem vI_X5_read : z_FI wsL_law yX5_read cX5_read 7 (some .int) := ⟨wL_14 _ (by decide +kernel), wL_1 _ (by decide +kernel), by decide +kernel, by decide +kernel⟩
theorem vV_X5_read : Cond.instanceMethod yX5_read ∈ wsL_law := wL_14 _ (by decide +kernel)
theorem vL_X5_read : Cond.selects RX5 yX5_read yX5_read ∈ wsL_law := wL_14 _ (by decide +kernel)
theorem vI_X2_word : z_FI wsL_law yX2_word cX2_word 2 (some .int) := ⟨wL_14 _ (by decide +kernel), wL_2 _ (by decide +kernel), by decide +kernel, by decide +kernel⟩
theorem vV_X2_word : Cond.instanceMethod yX2_word ∈ wsL_law := wL_14 _ (by decide +kernel)
theorem vL_X2_word : Cond.selects RX2 yX2_word yX2_word ∈ wsL_law := wL_14 _ (by decide +kernel)
theorem vI_X5_findHere : z_FI wsL_law yX5_findHere cX5_findHere 3 (some (.object "ServiceRows2$Identifier")) := ⟨wL_14 _ (by decide +kernel), wL_1 _ (by decide +kernel), by decide +kernel, by decide +kernel⟩
theorem vV_X5_findHere : Cond.instanceMethod yX5_findHere ∈ wsL_law := wL_14 _ (by decide +kernel)
theorem vL_X5_findHere : Cond.selects RX5 yX5_findHere yX5_findHere ∈ wsL_law := wL_14 _ (by decide +kernel)
theorem vI_X5_replyOctetsOf : z_FI wsL_law yX5_replyOctetsOf cX5_replyOctetsOf 3 none := ⟨wL_14 _ (by decide +kernel), wL_1 _ (by decide +kernel), by decide +kernel, by decide +kernel⟩
theorem vV_X5_replyOctetsOf : Cond.instanceMethod yX5_replyOctetsOf ∈ wsL_law := wL_14 _ (by decide +kernel)
theorem vL_X5_replyOctetsOf : Cond.selects RX5 yX5_replyOctetsOf yX5_replyOctetsOf ∈ wsL_law := wL_14 _ (by decide +kernel)
theorem vI_X0_putWord : z_FI wsL_law yX0_putWord cX0_putWord 2 none := ⟨wL_15 _ (by decide +kernel), wL_2 _ (by decide +kernel), by decide +kernel, by decide +kernel⟩
theorem vV_X0_putWord : Cond.instanceMethod yX0_putWord ∈ wsL_law := wL_15 _ (by decide +kernel)
theorem vL_X0_putWord : Cond.selects RX0 yX0_putWord yX0_putWord ∈ wsL_law := wL_15 _ (by decide +kernel)
theorem vI_X1_octetAt : z_FI wsL_law yX1_octetAt cX1_octetAt 3 (some .int) := ⟨wL_15 _ (by decide +kernel), wL_5 _ (by decide +kernel), by decide +kernel, by decide +kernel⟩
theorem vV_X1_octetAt : Cond.instanceMethod yX1_octetAt ∈ wsL_law := wL_15 _ (by decide +kernel)
theorem vL_X1_octetAt : Cond.selects RX1 yX1_octetAt yX1_octetAt ∈ wsL_law := wL_15 _ (by decide +kernel)
theorem vI_X1_ordinaryOctetAt : z_FI wsL_law yX1_ordinaryOctetAt cX1_ordinaryOctetAt 4 (some .int) := ⟨wL_15 _ (by decide +kernel), wL_5 _ (by decide +kernel), by decide +kernel, by decide +kernel⟩
theorem vV_X1_ordinaryOctetAt : Cond.instanceMethod yX1_ordinaryOctetAt ∈ wsL_law := wL_15 _ (by decide +kernel)
theorem vL_X1_ordinaryOctetAt : Cond.selects RX1 yX1_ordinaryOctetAt yX1_ordinaryOctetAt ∈ wsL_law := wL_15 _ (by decide +kernel)
theorem vI_X5_write : z_FI wsL_law yX5_write cX5_write 4 (some .int) := ⟨wL_15 _ (by decide +kernel), wL_1 _ (by decide +kernel), by decide +kernel, by decide +kernel⟩
theorem vV_X5_write : Cond.instanceMethod yX5_write ∈ wsL_law := wL_15 _ (by decide +kernel)
theorem vL_X5_write : Cond.selects RX5 yX5_write yX5_write ∈ wsL_law := wL_15 _ (by decide +kernel)
theorem vI_X2_number : z_FI wsL_law yX2_number cX2_number 6 (some .long) := ⟨wL_15 _ (by decide +kernel), wL_2 _ (by decide +kernel), by decide +kernel, by decide +kernel⟩
theorem vV_X2_number : Cond.instanceMethod yX2_number ∈ wsL_law := wL_15 _ (by decide +kernel)
theorem vL_X2_number : Cond.selects RX2 yX2_number yX2_number ∈ wsL_law := wL_15 _ (by decide +kernel)
theorem vI_X5_takeControl : z_FI wsL_law yX5_takeControl cX5_takeControl 5 (some .int) := ⟨wL_15 _ (by decide +kernel), wL_1 _ (by decide +kernel), by decide +kernel, by decide +kernel⟩
theorem vV_X5_takeControl : Cond.instanceMethod yX5_takeControl ∈ wsL_law := wL_15 _ (by decide +kernel)
theorem vL_X5_takeControl : Cond.selects RX5 yX5_takeControl yX5_takeControl ∈ wsL_law := wL_15 _ (by decide +kernel)
theorem vI_X5_setControl : z_FI wsL_law yX5_setControl cX5_setControl 3 none := ⟨wL_16 _ (by decide +kernel), wL_1 _ (by decide +kernel), by decide +kernel, by decide +kernel⟩
theorem vS_X5_setControl : Cond.static yX5_setControl ∈ wsL_law := wL_16 _ (by decide +kernel)
theorem vI_X1_hold : z_FI wsL_law yX1_hold cX1_hold 3 none := ⟨wL_16 _ (by decide +kernel), wL_5 _ (by decide +kernel), by decide +kernel, by decide +kernel⟩
theorem vV_X1_hold : Cond.instanceMethod yX1_hold ∈ wsL_law := wL_16 _ (by decide +kernel)
theorem vL_X1_hold : Cond.selects RX1 yX1_hold yX1_hold ∈ wsL_law := wL_16 _ (by decide +kernel)
theorem vI_X1_number : z_FI wsL_law yX1_number cX1_number 4 (some .long) := ⟨wL_16 _ (by decide +kernel), wL_5 _ (by decide +kernel), by decide +kernel, by decide +kernel⟩
theorem vV_X1_number : Cond.instanceMethod yX1_number ∈ wsL_law := wL_16 _ (by decide +kernel)
theorem vL_X1_number : Cond.selects RX1 yX1_number yX1_number ∈ wsL_law := wL_16 _ (by decide +kernel)
theorem vI_X5_handleRoutine : z_FI wsL_law yX5_handleRoutine cX5_handleRoutine 5 (some .int) := ⟨wL_16 _ (by decide +kernel), wL_1 _ (by decide +kernel), by decide +kernel, by decide +kernel⟩
theorem vV_X5_handleRoutine : Cond.instanceMethod yX5_handleRoutine ∈ wsL_law := wL_16 _ (by decide +kernel)
theorem vL_X5_handleRoutine : Cond.selects RX5 yX5_handleRoutine yX5_handleRoutine ∈ wsL_law := wL_16 _ (by decide +kernel)
theorem vI_X5_applyToRoutine : z_FI wsL_law yX5_applyToRoutine cX5_applyToRoutine 3 (some .int) := ⟨wL_16 _ (by decide +kernel), wL_1 _ (by decide +kernel), by decide +kernel, by decide +kernel⟩
theorem vV_X5_applyToRoutine : Cond.instanceMethod yX5_applyToRoutine ∈ wsL_law := wL_16 _ (by decide +kernel)
theorem vL_X5_applyToRoutine : Cond.selects RX5 yX5_applyToRoutine yX5_applyToRoutine ∈ wsL_law := wL_16 _ (by decide +kernel)
theorem vI_X5_startRoutine : z_FI wsL_law yX5_startRoutine cX5_startRoutine 2 (some .int) := ⟨wL_17 _ (by decide +kernel), wL_1 _ (by decide +kernel), by decide +kernel, by decide +kernel⟩
theorem vV_X5_startRoutine : Cond.instanceMethod yX5_startRoutine ∈ wsL_law := wL_17 _ (by decide +kernel)
theorem vL_X5_startRoutine : Cond.selects RX5 yX5_startRoutine yX5_startRoutine ∈ wsL_law := wL_17 _ (by decide +kernel)
theorem vI_X3_start : z_FI wsL_law yX3_start cX3_start 1 none := ⟨wL_17 _ (by decide +kernel), wL_8 _ (by decide +kernel), by decide +kernel, by decide +kernel⟩
theorem vV_X3_start : Cond.instanceMethod yX3_start ∈ wsL_law := wL_17 _ (by decide +kernel)
theorem vL_X3_start : Cond.selects RX3 yX3_start yX3_start ∈ wsL_law := wL_17 _ (by decide +kernel)
theorem vI_X5_askResult : z_FI wsL_law yX5_askResult cX5_askResult 2 (some .int) := ⟨wL_17 _ (by decide +kernel), wL_1 _ (by decide +kernel), by decide +kernel, by decide +kernel⟩
theorem vV_X5_askResult : Cond.instanceMethod yX5_askResult ∈ wsL_law := wL_17 _ (by decide +kernel)
theorem vL_X5_askResult : Cond.selects RX5 yX5_askResult yX5_askResult ∈ wsL_law := wL_17 _ (by decide +kernel)
theorem vI_X5_openTransfer : z_FI wsL_law yX5_openTransfer cX5_openTransfer 3 (some .int) := ⟨wL_17 _ (by decide +kernel), wL_1 _ (by decide +kernel), by decide +kernel, by decide +kernel⟩
theorem vV_X5_openTransfer : Cond.instanceMethod yX5_openTransfer ∈ wsL_law := wL_17 _ (by decide +kernel)
theorem vL_X5_openTransfer : Cond.selects RX5 yX5_openTransfer yX5_openTransfer ∈ wsL_law := wL_17 _ (by decide +kernel)
theorem vI_X4_open : z_FI wsL_law yX4_open cX4_open 2 none := ⟨wL_17 _ (by decide +kernel), wL_2 _ (by decide +kernel), by decide +kernel, by decide +kernel⟩
theorem vV_X4_open : Cond.instanceMethod yX4_open ∈ wsL_law := wL_17 _ (by decide +kernel)
theorem vL_X4_open : Cond.selects RX4 yX4_open yX4_open ∈ wsL_law := wL_17 _ (by decide +kernel)
theorem vI_X5_takeBlock : z_FI wsL_law yX5_takeBlock cX5_takeBlock 4 (some .int) := ⟨wL_18 _ (by decide +kernel), wL_1 _ (by decide +kernel), by decide +kernel, by decide +kernel⟩
theorem vV_X5_takeBlock : Cond.instanceMethod yX5_takeBlock ∈ wsL_law := wL_17 _ (by decide +kernel)
theorem vL_X5_takeBlock : Cond.selects RX5 yX5_takeBlock yX5_takeBlock ∈ wsL_law := wL_17 _ (by decide +kernel)
theorem vI_X4_isBlockBefore : z_FI wsL_law yX4_isBlockBefore cX4_isBlockBefore 2 (some .boolean) := ⟨wL_18 _ (by decide +kernel), wL_2 _ (by decide +kernel), by decide +kernel, by decide +kernel⟩
theorem vV_X4_isBlockBefore : Cond.instanceMethod yX4_isBlockBefore ∈ wsL_law := wL_18 _ (by decide +kernel)
theorem vL_X4_isBlockBefore : Cond.selects RX4 yX4_isBlockBefore yX4_isBlockBefore ∈ wsL_law := wL_18 _ (by decide +kernel)
theorem vI_X4_nextBlock : z_FI wsL_law yX4_nextBlock cX4_nextBlock 1 (some .int) := ⟨wL_18 _ (by decide +kernel), wL_2 _ (by decide +kernel), by decide +kernel, by decide +kernel⟩
theorem vV_X4_nextBlock : Cond.instanceMethod yX4_nextBlock ∈ wsL_law := wL_18 _ (by decide +kernel)
theorem vL_X4_nextBlock : Cond.selects RX4 yX4_nextBlock yX4_nextBlock ∈ wsL_law := wL_18 _ (by decide +kernel)
theorem vI_X4_add : z_FI wsL_law yX4_add cX4_add 4 none := ⟨wL_18 _ (by decide +kernel), wL_2 _ (by decide +kernel), by decide +kernel, by decide +kernel⟩
theorem vV_X4_add : Cond.instanceMethod yX4_add ∈ wsL_law := wL_18 _ (by decide +kernel)
theorem vL_X4_add : Cond.selects RX4 yX4_add yX4_add ∈ wsL_law := wL_18 _ (by decide +kernel)
theorem vI_X5_closeTransfer : z_FI wsL_law yX5_closeTransfer cX5_closeTransfer 3 (some .int) := ⟨wL_18 _ (by decide +kernel), wL_1 _ (by decide +kernel), by decide +kernel, by decide +kernel⟩
theorem vV_X5_closeTransfer : Cond.instanceMethod yX5_closeTransfer ∈ wsL_law := wL_18 _ (by decide +kernel)
theorem vL_X5_closeTransfer : Cond.selects RX5 yX5_closeTransfer yX5_closeTransfer ∈ wsL_law := wL_18 _ (by decide +kernel)
theorem vI_X5_stayPresent : z_FI wsL_law yX5_stayPresent cX5_stayPresent 2 (some .int) := ⟨wL_19 _ (by decide +kernel), wL_1 _ (by decide +kernel), by decide +kernel, by decide +kernel⟩
theorem vV_X5_stayPresent : Cond.instanceMethod yX5_stayPresent ∈ wsL_law := wL_18 _ (by decide +kernel)
theorem vL_X5_stayPresent : Cond.selects RX5 yX5_stayPresent yX5_stayPresent ∈ wsL_law := wL_18 _ (by decide +kernel)
theorem vI_X5_isKeptFromAll : z_FI wsL_law yX5_isKeptFromAll cX5_isKeptFromAll 1 (some .boolean) := ⟨wL_19 _ (by decide +kernel), wL_1 _ (by decide +kernel), by decide +kernel, by decide +kernel⟩
theorem vS_X5_isKeptFromAll : Cond.static yX5_isKeptFromAll ∈ wsL_law := wL_19 _ (by decide +kernel)
theorem vI_X2_wantsNoAnswer : z_FI wsL_law yX2_wantsNoAnswer cX2_wantsNoAnswer 2 (some .boolean) := ⟨wL_19 _ (by decide +kernel), wL_2 _ (by decide +kernel), by decide +kernel, by decide +kernel⟩
theorem vV_X2_wantsNoAnswer : Cond.instanceMethod yX2_wantsNoAnswer ∈ wsL_law := wL_19 _ (by decide +kernel)
theorem vL_X2_wantsNoAnswer : Cond.selects RX2 yX2_wantsNoAnswer yX2_wantsNoAnswer ∈ wsL_law := wL_19 _ (by decide +kernel)
theorem vI_X2_end : z_FI wsL_law yX2_end cX2_end 1 none := ⟨wL_19 _ (by decide +kernel), wL_2 _ (by decide +kernel), by decide +kernel, by decide +kernel⟩
theorem vV_X2_end : Cond.instanceMethod yX2_end ∈ wsL_law := wL_19 _ (by decide +kernel)
theorem vL_X2_end : Cond.selects RX2 yX2_end yX2_end ∈ wsL_law := wL_19 _ (by decide +kernel)
theorem vI_X6_ask : z_FI wsL_law yX6_ask cX6_ask 4 (some .int) := ⟨wL_19 _ (by decide +kernel), wL_1 _ (by decide +kernel), by decide +kernel, by decide +kernel⟩
theorem vV_X6_ask : Cond.instanceMethod yX6_ask ∈ wsL_law := wL_19 _ (by decide +kernel)
theorem vL_X6_ask : Cond.selects RX6 yX6_ask yX6_ask ∈ wsL_law := wL_19 _ (by decide +kernel)
theorem vI_X6_looked : z_FI wsL_law yX6_looked cX6_looked 4 (some .int) := ⟨wL_20 _ (by decide +kernel), wL_1 _ (by decide +kernel), by decide +kernel, by decide +kernel⟩
theorem vV_X6_looked : Cond.instanceMethod yX6_looked ∈ wsL_law := wL_20 _ (by decide +kernel)
theorem vL_X6_looked : Cond.selects RX6 yX6_looked yX6_looked ∈ wsL_law := wL_20 _ (by decide +kernel)
theorem vI_X6_served : z_FI wsL_law yX6_served cX6_served 4 (some .int) := ⟨wL_20 _ (by decide +kernel), wL_1 _ (by decide +kernel), by decide +kernel, by decide +kernel⟩
theorem vV_X6_served : Cond.instanceMethod yX6_served ∈ wsL_law := wL_20 _ (by decide +kernel)
theorem vL_X6_served : Cond.selects RX6 yX6_served yX6_served ∈ wsL_law := wL_20 _ (by decide +kernel)
theorem vI_X6_ends : z_FI wsL_law yX6_ends cX6_ends 3 none := ⟨wL_20 _ (by decide +kernel), wL_1 _ (by decide +kernel), by decide +kernel, by decide +kernel⟩
theorem vV_X6_ends : Cond.instanceMethod yX6_ends ∈ wsL_law := wL_20 _ (by decide +kernel)
theorem vL_X6_ends : Cond.selects RX6 yX6_ends yX6_ends ∈ wsL_law := wL_20 _ (by decide +kernel)
theorem vI_X6_say : z_FI wsL_law yX6_say cX6_say 2 none := ⟨wL_20 _ (by decide +kernel), wL_1 _ (by decide +kernel), by decide +kernel, by decide +kernel⟩
theorem vV_X6_say : Cond.instanceMethod yX6_say ∈ wsL_law := wL_20 _ (by decide +kernel)
theorem vL_X6_say : Cond.selects RX6 yX6_say yX6_say ∈ wsL_law := wL_20 _ (by decide +kernel)
theorem vI_X6_read : z_FI wsL_law yX6_read cX6_read 7 (some .int) := ⟨wL_21 _ (by decide +kernel), wL_1 _ (by decide +kernel), by decide +kernel, by decide +kernel⟩
theorem vV_X6_read : Cond.instanceMethod yX6_read ∈ wsL_law := wL_21 _ (by decide +kernel)
theorem vL_X6_read : Cond.selects RX6 yX6_read yX6_read ∈ wsL_law := wL_21 _ (by decide +kernel)
theorem vI_X6_told : z_FI wsL_law yX6_told cX6_told 2 (some .int) := ⟨wL_21 _ (by decide +kernel), wL_1 _ (by decide +kernel), by decide +kernel, by decide +kernel⟩
theorem vV_X6_told : Cond.instanceMethod yX6_told ∈ wsL_law := wL_21 _ (by decide +kernel)
theorem vL_X6_told : Cond.selects RX6 yX6_told yX6_told ∈ wsL_law := wL_21 _ (by decide +kernel)
theorem vI_X6_isHere : z_FI wsL_law yX6_isHere cX6_isHere 2 (some .boolean) := ⟨wL_21 _ (by decide +kernel), wL_1 _ (by decide +kernel), by decide +kernel, by decide +kernel⟩
theorem vV_X6_isHere : Cond.instanceMethod yX6_isHere ∈ wsL_law := wL_21 _ (by decide +kernel)
theorem vL_X6_isHere : Cond.selects RX6 yX6_isHere yX6_isHere ∈ wsL_law := wL_21 _ (by decide +kernel)
theorem vI_X6_octet : z_FI wsL_law yX6_octet cX6_octet 7 (some .int) := ⟨wL_21 _ (by decide +kernel), wL_1 _ (by decide +kernel), by decide +kernel, by decide +kernel⟩
theorem vV_X6_octet : Cond.instanceMethod yX6_octet ∈ wsL_law := wL_21 _ (by decide +kernel)
theorem vL_X6_octet : Cond.selects RX6 yX6_octet yX6_octet ∈ wsL_law := wL_21 _ (by decide +kernel)
theorem vI_X6_write : z_FI wsL_law yX6_write cX6_write 3 (some .int) := ⟨wL_21 _ (by decide +kernel), wL_1 _ (by decide +kernel), by decide +kernel, by decide +kernel⟩
theorem vV_X6_write : Cond.instanceMethod yX6_write ∈ wsL_law := wL_21 _ (by decide +kernel)
theorem vL_X6_write : Cond.selects RX6 yX6_write yX6_write ∈ wsL_law := wL_21 _ (by decide +kernel)
theorem vI_X6_number : z_FI wsL_law yX6_number cX6_number 6 (some .long) := ⟨wL_21 _ (by decide +kernel), wL_1 _ (by decide +kernel), by decide +kernel, by decide +kernel⟩
theorem vV_X6_number : Cond.instanceMethod yX6_number ∈ wsL_law := wL_21 _ (by decide +kernel)
theorem vL_X6_number : Cond.selects RX6 yX6_number yX6_number ∈ wsL_law := wL_21 _ (by decide +kernel)
theorem vI_X6_threeSaid : z_FI wsL_law yX6_threeSaid cX6_threeSaid 4 none := ⟨wL_22 _ (by decide +kernel), wL_1 _ (by decide +kernel), by decide +kernel, by decide +kernel⟩
theorem vV_X6_threeSaid : Cond.instanceMethod yX6_threeSaid ∈ wsL_law := wL_22 _ (by decide +kernel)
theorem vL_X6_threeSaid : Cond.selects RX6 yX6_threeSaid yX6_threeSaid ∈ wsL_law := wL_22 _ (by decide +kernel)
theorem vI_X6_controls : z_FI wsL_law yX6_controls cX6_controls 6 (some .int) := ⟨wL_22 _ (by decide +kernel), wL_1 _ (by decide +kernel), by decide +kernel, by decide +kernel⟩
theorem vV_X6_controls : Cond.instanceMethod yX6_controls ∈ wsL_law := wL_22 _ (by decide +kernel)
theorem vL_X6_controls : Cond.selects RX6 yX6_controls yX6_controls ∈ wsL_law := wL_22 _ (by decide +kernel)
theorem vI_X6_valueOf : z_FI wsL_law yX6_valueOf cX6_valueOf 5 (some .long) := ⟨wL_22 _ (by decide +kernel), wL_1 _ (by decide +kernel), by decide +kernel, by decide +kernel⟩
theorem vV_X6_valueOf : Cond.instanceMethod yX6_valueOf ∈ wsL_law := wL_22 _ (by decide +kernel)
theorem vL_X6_valueOf : Cond.selects RX6 yX6_valueOf yX6_valueOf ∈ wsL_law := wL_22 _ (by decide +kernel)
theorem vI_X6_runs : z_FI wsL_law yX6_runs cX6_runs 5 (some .int) := ⟨wL_22 _ (by decide +kernel), wL_1 _ (by decide +kernel), by decide +kernel, by decide +kernel⟩
theorem vV_X6_runs : Cond.instanceMethod yX6_runs ∈ wsL_law := wL_22 _ (by decide +kernel)
theorem vL_X6_runs : Cond.selects RX6 yX6_runs yX6_runs ∈ wsL_law := wL_22 _ (by decide +kernel)
theorem vI_X6_takes : z_FI wsL_law yX6_takes cX6_takes 4 (some .int) := ⟨wL_22 _ (by decide +kernel), wL_1 _ (by decide +kernel), by decide +kernel, by decide +kernel⟩
theorem vV_X6_takes : Cond.instanceMethod yX6_takes ∈ wsL_law := wL_22 _ (by decide +kernel)
theorem vL_X6_takes : Cond.selects RX6 yX6_takes yX6_takes ∈ wsL_law := wL_22 _ (by decide +kernel)
theorem vI_X5_answer : z_FI wsL_law yX5_answer cX5_answer 2 (some .byte) := ⟨wL_23 _ (by decide +kernel), wL_1 _ (by decide +kernel), by decide +kernel, by decide +kernel⟩
theorem vV_X5_answer : Cond.instanceMethod yX5_answer ∈ wsL_law := wL_23 _ (by decide +kernel)
theorem vL_X5_answer : Cond.selects RX5 yX5_answer yX5_answer ∈ wsL_law := wL_23 _ (by decide +kernel)
theorem vI_X0_has : z_FI wsL_law yX0_has cX0_has 2 (some .boolean) := ⟨wL_23 _ (by decide +kernel), wL_2 _ (by decide +kernel), by decide +kernel, by decide +kernel⟩
theorem vV_X0_has : Cond.instanceMethod yX0_has ∈ wsL_law := wL_23 _ (by decide +kernel)
theorem vL_X0_has : Cond.selects RX0 yX0_has yX0_has ∈ wsL_law := wL_23 _ (by decide +kernel)
theorem vI_X0_octetAt : z_FI wsL_law yX0_octetAt cX0_octetAt 2 (some .byte) := ⟨wL_23 _ (by decide +kernel), wL_2 _ (by decide +kernel), by decide +kernel, by decide +kernel⟩
theorem vV_X0_octetAt : Cond.instanceMethod yX0_octetAt ∈ wsL_law := wL_23 _ (by decide +kernel)
theorem vL_X0_octetAt : Cond.selects RX0 yX0_octetAt yX0_octetAt ∈ wsL_law := wL_23 _ (by decide +kernel)
theorem vI_X6_answer : z_FI wsL_law yX6_answer cX6_answer 2 (some .byte) := ⟨wL_23 _ (by decide +kernel), wL_1 _ (by decide +kernel), by decide +kernel, by decide +kernel⟩
theorem vV_X6_answer : Cond.instanceMethod yX6_answer ∈ wsL_law := wL_23 _ (by decide +kernel)
theorem vL_X6_answer : Cond.selects RX6 yX6_answer yX6_answer ∈ wsL_law := wL_23 _ (by decide +kernel)
theorem vI_X6_thrown : z_FI wsL_law yX6_thrown cX6_thrown 1 (some .int) := ⟨wL_24 _ (by decide +kernel), wL_1 _ (by decide +kernel), by decide +kernel, by decide +kernel⟩
theorem vV_X6_thrown : Cond.instanceMethod yX6_thrown ∈ wsL_law := wL_23 _ (by decide +kernel)
theorem vL_X6_thrown : Cond.selects RX6 yX6_thrown yX6_thrown ∈ wsL_law := wL_24 _ (by decide +kernel)
theorem vI_X5_code : z_FI wsL_law yX5_code cX5_code 1 (some .int) := ⟨wL_24 _ (by decide +kernel), wL_1 _ (by decide +kernel), by decide +kernel, by decide +kernel⟩
theorem vV_X5_code : Cond.instanceMethod yX5_code ∈ wsL_law := wL_24 _ (by decide +kernel)
theorem vL_X5_code : Cond.selects RX5 yX5_code yX5_code ∈ wsL_law := wL_24 _ (by decide +kernel)
theorem vI_X6_code : z_FI wsL_law yX6_code cX6_code 1 (some .int) := ⟨wL_24 _ (by decide +kernel), wL_1 _ (by decide +kernel), by decide +kernel, by decide +kernel⟩
theorem vV_X6_code : Cond.instanceMethod yX6_code ∈ wsL_law := wL_24 _ (by decide +kernel)
theorem vL_X6_code : Cond.selects RX6 yX6_code yX6_code ∈ wsL_law := wL_24 _ (by decide +kernel)
theorem vI_X5_transfer : z_FI wsL_law yX5_transfer cX5_transfer 4 (some .int) := ⟨wL_24 _ (by decide +kernel), wL_1 _ (by decide +kernel), by decide +kernel, by decide +kernel⟩
theorem vV_X5_transfer : Cond.instanceMethod yX5_transfer ∈ wsL_law := wL_24 _ (by decide +kernel)
theorem vL_X5_transfer : Cond.selects RX5 yX5_transfer yX5_transfer ∈ wsL_law := wL_24 _ (by decide +kernel)
theorem vI_X6_transfer : z_FI wsL_law yX6_transfer cX6_transfer 5 (some .int) := ⟨wL_24 _ (by decide +kernel), wL_1 _ (by decide +kernel), by decide +kernel, by decide +kernel⟩
theorem vV_X6_transfer : Cond.instanceMethod yX6_transfer ∈ wsL_law := wL_24 _ (by decide +kernel)
theorem vL_X6_transfer : Cond.selects RX6 yX6_transfer yX6_transfer ∈ wsL_law := wL_24 _ (by decide +kernel)
theorem vI_X5_tick : z_FI wsL_law yX5_tick cX5_tick 5 (some .int) := ⟨wL_24 _ (by decide +kernel), wL_1 _ (by decide +kernel), by decide +kernel, by decide +kernel⟩
theorem vV_X5_tick : Cond.instanceMethod yX5_tick ∈ wsL_law := wL_24 _ (by decide +kernel)
theorem vL_X5_tick : Cond.selects RX5 yX5_tick yX5_tick ∈ wsL_law := wL_24 _ (by decide +kernel)
theorem vI_X3_step : z_FI wsL_law yX3_step cX3_step 1 none := ⟨wL_25 _ (by decide +kernel), wL_8 _ (by decide +kernel), by decide +kernel, by decide +kernel⟩
theorem vV_X3_step : Cond.instanceMethod yX3_step ∈ wsL_law := wL_25 _ (by decide +kernel)
theorem vL_X3_step : Cond.selects RX3 yX3_step yX3_step ∈ wsL_law := wL_25 _ (by decide +kernel)
theorem vI_X6_tick : z_FI wsL_law yX6_tick cX6_tick 5 (some .int) := ⟨wL_25 _ (by decide +kernel), wL_1 _ (by decide +kernel), by decide +kernel, by decide +kernel⟩
theorem vV_X6_tick : Cond.instanceMethod yX6_tick ∈ wsL_law := wL_25 _ (by decide +kernel)
theorem vL_X6_tick : Cond.selects RX6 yX6_tick yX6_tick ∈ wsL_law := wL_25 _ (by decide +kernel)
theorem vI_X5_value : z_FI wsL_law yX5_value cX5_value 3 (some .long) := ⟨wL_25 _ (by decide +kernel), wL_1 _ (by decide +kernel), by decide +kernel, by decide +kernel⟩
theorem vV_X5_value : Cond.instanceMethod yX5_value ∈ wsL_law := wL_25 _ (by decide +kernel)
theorem vL_X5_value : Cond.selects RX5 yX5_value yX5_value ∈ wsL_law := wL_25 _ (by decide +kernel)
theorem vI_X6_value : z_FI wsL_law yX6_value cX6_value 3 (some .long) := ⟨wL_25 _ (by decide +kernel), wL_1 _ (by decide +kernel), by decide +kernel, by decide +kernel⟩
theorem vV_X6_value : Cond.instanceMethod yX6_value ∈ wsL_law := wL_25 _ (by decide +kernel)
theorem vL_X6_value : Cond.selects RX6 yX6_value yX6_value ∈ wsL_law := wL_25 _ (by decide +kernel)
theorem vO_i : Cond.instanceMethod objectInit ∈ wsL_law := wL_1 _ (by decide +kernel)
theorem vO_c : Cond.code objectInit ⟨#[0xb1]⟩ 1 none ∈ wsL_law := wL_1 _ (by decide +kernel)
set_option maxRecDepth 100000 in
theorem wL_good : wsL_law.all goodWord = true := by decide +kernel
end
section
/-! our classes in the logical machine: 0 the exception, 1 Answer, 2 Identifier, 3 Question, 4 Routine, 5 Transfer, 6 ServiceRows2, 7 the reference -/
abbrev z_ats : List FieldType := [.int, .byte, .long, .boolean, .object RX1, .object RX3]
def z_nw (U : State) : Prop := va_AO RX1 U ∧ va_AO RX3 U
theorem z_nwOK : z_NW z_nw := ⟨fun _ _ hW h => ⟨h.1.moved hW.alike, h.2.moved hW.alike⟩, fun _ U _ _ h => ⟨h.1.moved (Vm.Alike.refl U.vm), h.2.moved (Vm.Alike.refl U.vm)⟩⟩
abbrev z_K (y : MethodName) (c : ByteArray) (maxL : Nat) (rt : Option FieldType) (rk mc ms : Nat) (as : List Value) (h : z_H) (Q : Option Value → z_H → Prop) : Prop := z_M vwCl z_ats z_nw wsL_law y c maxL rt rk mc ms as h Q
theorem vM_X2_29 : Cond.methodLink RX2 29 Lib.Math.min.name ∈ wsL_law := wL_10 _ (by decide +kernel)
theorem vS_min : Cond.static Lib.Math.min.name ∈ wsL_law := wL_10 _ (by decide +kernel)
theorem vI_min : Cond.initialized "java/lang/Math" ∈ wsL_law := wL_10 _ (by decide +kernel)
theorem vC_min : Cond.code Lib.Math.min.name Lib.Math.min.code 2 (some .int) ∈ wsL_law := wL_10 _ (by decide +kernel)
theorem z_mmin {G : z_G} {own : String} {cc : ByteArray} {nL : Nat} {R0 : Room} {X : z_X} {Q : State → Prop} {cells slots pc : Nat} {lv : List (Nat × Value)} {st : List Value} {h : z_H} (F : z_F vwCl z_ats z_nw wsL_law G own cc nL R0 X) {idx : Nat} {x y : Int32} (hl : Cond.methodLink own idx Lib.Math.min.name ∈ wsL_law) (hd : decode cc pc = .ok (.invokestatic idx, 3)) (hfr : 1 ≤ R0.frames) (hlo : (st.map fun v => v.category).sum + 13 ≤ R0.locals) (hc : cells ≤ R0.cells) (hs : slots ≤ R0.slots)
    (kk : z_V vwCl G nL X Q cells slots (pc + 3) lv (.int (if y < x then y else x) :: st) h) : z_V vwCl G nL X Q cells slots pc lv (.int y :: .int x :: st) h := by
  intro H locs ls r b d
  exact va_mmin F.1 F.2.1 (by rw [F.2.2.1]; exact d.1.symm) F.own (F.wd _ hl) (F.wd _ vS_min) (F.wd _ vI_min) (F.wd _ vC_min) (by rw [F.room]; exact hfr) (by rw [F.room, z_cats]; exact hlo) (by rw [F.room]; exact hc) (by rw [F.room]; exact hs) hd (kk H locs ls r b d)
end
section
/-! cells: reading behind a writing -/
theorem z_ss {h : z_H} {a : Nat} {c e : z_E} (ha : h[a]? = some e) : (h.set a c)[a]? = some c := List.getElem?_set_self (List.getElem?_eq_some_iff.mp ha).1
theorem z_sn {h : z_H} {a b : Nat} {c : z_E} (hne : a ≠ b) : (h.set a c)[b]? = h[b]? := List.getElem?_set_ne hne
theorem z_pa {h : z_H} {a : Nat} {x e : z_E} (ha : h[a]? = some x) : (h ++ [e])[a]? = some x := by
  rw [List.getElem?_append_left (List.getElem?_eq_some_iff.mp ha).1]; exact ha
theorem z_pl {h : z_H} {e : z_E} : (h ++ [e])[h.length]? = some e := by simp
theorem z_sid {h : z_H} {a : Nat} {c : z_E} (ha : h[a]? = some c) : h.set a c = h := by
  apply List.ext_getElem?
  intro i
  by_cases hi : a = i
  · subst hi; rw [z_ss ha, ha]
  · rw [z_sn hi]
theorem z_b8 (x : Int32) : x.toInt8.toInt32.toInt8.toInt32 = x.toInt8.toInt32 := by rw [Int8.toInt8_toInt32]
/-! Answer: at a, its octets at o -/
def A_at (h : z_H) (a o n : Nat) (f : Nat → Int32) : Prop := h[a]? = some (.inr (1, [.ref o, .int (nI n)])) ∧ h[o]? = some (.inl (1, 41, .inl f)) ∧ a ≠ o
def A_set (h : z_H) (a o n : Nat) (f : Nat → Int32) : z_H := (h.set o (.inl (1, 41, .inl f))).set a (.inr (1, [.ref o, .int (nI n)]))
theorem A_ss {h : z_H} {a o n m : Nat} {f g : Nat → Int32} (H : A_at h a o n f) : A_at (A_set h a o m g) a o m g :=
  ⟨z_ss (e := .inr (1, [.ref o, .int (nI n)])) (by rw [z_sn (Ne.symm H.2.2)]; exact H.1), by unfold A_set; rw [z_sn H.2.2]; exact z_ss H.2.1, H.2.2⟩
theorem A_set2 {h : z_H} {a o n m : Nat} {f g : Nat → Int32} (hne : a ≠ o) : A_set (A_set h a o n f) a o m g = A_set h a o m g := by
  unfold A_set
  rw [List.set_comm _ _ hne, List.set_set, List.set_set]
theorem A_self {h : z_H} {a o n : Nat} {f : Nat → Int32} (H : A_at h a o n f) : A_set h a o n f = h := by
  unfold A_set
  rw [z_sid H.2.1, z_sid H.1]
theorem A_ne {h : z_H} {a o n k : Nat} {f : Nat → Int32} (h1 : a ≠ k) (h2 : o ≠ k) : (A_set h a o n f)[k]? = h[k]? := by
  unfold A_set
  rw [z_sn h1, z_sn h2]
theorem A_len {h : z_H} {a o n : Nat} {f : Nat → Int32} : (A_set h a o n f).length = h.length := by
  unfold A_set
  rw [List.length_set, List.length_set]

set_option maxRecDepth 100000 in
set_option maxHeartbeats 1000000 in
theorem c_X0_clear {h : z_H} {a o n : Nat} {f : Nat → Int32} (H : A_at h a o n f) : z_K yX0_clear cX0_clear 1 none 0 0 0 [.ref a] h (fun v h' => v = none ∧ h' = A_set h a o 0 f) := by
  refine z_met vI_X0_clear (Nat.le_of_ble_eq_true rfl) (fun G X F hr hnm => ?_)
  refine z_aload_n F dX0_clear_0 rfl rfl ?_
  refine z_iconst (v := 0) F dX0_clear_1 rfl ?_
  refine z_putf F vF_X0_15 vT_X0 vD_X0_1 dX0_clear_2 H.1 (Nat.le_of_ble_eq_true rfl) rfl rfl (fun g2 => ?_)
  exact z_vret F hr dX0_clear_5 (Nat.le_of_ble_eq_true rfl) (Nat.le_of_ble_eq_true rfl) (⟨rfl, by unfold A_set; rw [z_sid H.2.1]; rfl⟩)

set_option maxRecDepth 100000 in
set_option maxHeartbeats 1000000 in
theorem c_X0_put {h : z_H} {a o n : Nat} {f : Nat → Int32} (x : Int32) (H : A_at h a o n f) (hn : n < 41) : z_K yX0_put cX0_put 2 none 0 0 0 [.ref a, .int x] h (fun v h' => v = none ∧ h' = A_set h a o (n + 1) (upd f n x.toInt8.toInt32)) := by
  refine z_met vI_X0_put (Nat.le_of_ble_eq_true rfl) (fun G X F hr hnm => ?_)
  refine z_aload_n F dX0_put_0 rfl rfl ?_
  refine z_getf F vF_X0_15 dX0_put_1 H.1 rfl ?_
  refine z_if_lt (tgt := 40) F dX0_put_4 (by decide) (fun c4 => absurd c4 (nI_pos (by omega))) (fun c4 => ?_)
  refine z_aload_n F dX0_put_7 rfl rfl ?_
  refine z_getf F vF_X0_15 dX0_put_8 H.1 rfl ?_
  refine z_aload_n F dX0_put_11 rfl rfl ?_
  refine z_getf F vF_X0_9 dX0_put_12 H.1 rfl ?_
  refine z_alen (v := nI 41) F dX0_put_15 H.2.1 rfl rfl ?_
  refine z_icmp_ge (tgt := 40) F dX0_put_16 (by decide) (fun c16 => absurd c16 (nI_ge hn (by decide))) (fun c16 => ?_)
  refine z_aload_n F dX0_put_19 rfl rfl ?_
  refine z_getf F vF_X0_9 dX0_put_20 H.1 rfl ?_
  refine z_aload_n F dX0_put_23 rfl rfl ?_
  refine z_getf F vF_X0_15 dX0_put_24 H.1 rfl ?_
  refine z_iload_n F dX0_put_27 rfl ?_
  refine z_i2b F dX0_put_28 ?_
  refine z_bast F dX0_put_29 H.2.1 rfl rfl hn (Nat.le_of_ble_eq_true rfl) ?_
  have h29 : (h.set o (.inl (1, 41, .inl (upd f n x.toInt8.toInt32.toInt8.toInt32))))[a]? = some (.inr (1, [.ref o, .int (nI n)])) := by rw [z_sn (Ne.symm H.2.2)]; exact H.1
  refine z_aload_n F dX0_put_30 rfl rfl ?_
  refine z_dup F dX0_put_31 rfl ?_
  refine z_getf F vF_X0_15 dX0_put_32 h29 rfl ?_
  refine z_iconst (v := 1) F dX0_put_35 rfl ?_
  refine z_iadd F dX0_put_36 ?_
  rw [nI_1]
  refine z_putf F vF_X0_15 vT_X0 vD_X0_1 dX0_put_37 h29 (Nat.le_of_ble_eq_true rfl) rfl rfl (fun g37 => ?_)
  exact z_vret F hr dX0_put_40 (Nat.le_of_ble_eq_true rfl) (Nat.le_of_ble_eq_true rfl) (⟨rfl, by rw [z_b8]; rfl⟩)

set_option maxRecDepth 100000 in
set_option maxHeartbeats 1000000 in
theorem c_X0_putWord {h : z_H} {a o n : Nat} {f : Nat → Int32} (x : Int32) (H : A_at h a o n f) (hn : n + 1 < 41) : z_K yX0_putWord cX0_putWord 2 none 1 0 0 [.ref a, .int x] h (fun v h' => v = none ∧ h' = A_set h a o (n + 2) (upd (upd f n (x >>> ((8 : Int32) &&& 31)).toInt8.toInt32) (n + 1) x.toInt8.toInt32)) := by
  refine z_met vI_X0_putWord (Nat.le_of_ble_eq_true rfl) (fun G X F hr hnm => ?_)
  refine z_aload_n F dX0_putWord_0 rfl rfl ?_
  refine z_iload_n F dX0_putWord_1 rfl ?_
  refine z_bipush (v := 8) F dX0_putWord_2 rfl ?_
  refine z_ishr F dX0_putWord_4 ?_
  refine z_callV F z_nwOK wL_good (c_X0_put (x >>> ((8 : Int32) &&& 31)) H (by omega)) H.1 rfl vI_X0_put vM_X0_19 vV_X0_put vL_X0_put rfl dX0_putWord_5 rfl rfl (Nat.le_of_ble_eq_true rfl) ⟨(Nat.le_of_ble_eq_true rfl), (Nat.le_of_ble_eq_true rfl), (Nat.le_of_ble_eq_true rfl), (Nat.le_of_ble_eq_true rfl)⟩ (fun v h1 hq => ?_)
  obtain ⟨rfl, rfl⟩ := hq
  have H2 := A_ss (m := n + 1) (g := upd f n (x >>> ((8 : Int32) &&& 31)).toInt8.toInt32) H
  refine z_aload_n F dX0_putWord_8 rfl rfl ?_
  refine z_iload_n F dX0_putWord_9 rfl ?_
  refine z_callV F z_nwOK wL_good (c_X0_put x H2 (by omega)) H2.1 rfl vI_X0_put vM_X0_19 vV_X0_put vL_X0_put rfl dX0_putWord_10 rfl rfl (Nat.le_of_ble_eq_true rfl) ⟨(Nat.le_of_ble_eq_true rfl), (Nat.le_of_ble_eq_true rfl), (Nat.le_of_ble_eq_true rfl), (Nat.le_of_ble_eq_true rfl)⟩ (fun v h1 hq => ?_)
  obtain ⟨rfl, rfl⟩ := hq
  exact z_vret F hr dX0_putWord_13 (Nat.le_of_ble_eq_true rfl) (Nat.le_of_ble_eq_true rfl) (⟨rfl, by rw [A_set2 H.2.2]⟩)

set_option maxRecDepth 100000 in
set_option maxHeartbeats 1000000 in
theorem c_X0_has_y {h : z_H} {a o n : Nat} {f : Nat → Int32} {j : Nat} (H : A_at h a o n f) (hn : n ≤ 41) (hj : j < n) : z_K yX0_has cX0_has 2 (some .boolean) 0 0 0 [.ref a, .int (nI j)] h (fun v h' => v = some (.int 1) ∧ h' = h) := by
  refine z_met vI_X0_has (Nat.le_of_ble_eq_true rfl) (fun G X F hr hnm => ?_)
  refine z_iload_n F dX0_has_0 rfl ?_
  refine z_if_lt (tgt := 25) F dX0_has_1 (by decide) (fun c1 => absurd c1 (nI_pos (by omega))) (fun c1 => ?_)
  refine z_iload_n F dX0_has_4 rfl ?_
  refine z_aload_n F dX0_has_5 rfl rfl ?_
  refine z_getf F vF_X0_15 dX0_has_6 H.1 rfl ?_
  refine z_icmp_ge (tgt := 25) F dX0_has_9 (by decide) (fun c9 => absurd c9 (nI_ge hj (by omega))) (fun c9 => ?_)
  refine z_iload_n F dX0_has_12 rfl ?_
  refine z_aload_n F dX0_has_13 rfl rfl ?_
  refine z_getf F vF_X0_9 dX0_has_14 H.1 rfl ?_
  refine z_alen (v := nI 41) F dX0_has_17 H.2.1 rfl rfl ?_
  refine z_icmp_ge (tgt := 25) F dX0_has_18 (by decide) (fun c18 => absurd c18 (nI_ge (by omega) (by decide))) (fun c18 => ?_)
  refine z_iconst (v := 1) F dX0_has_21 rfl ?_
  refine z_goto (tgt := 26) F dX0_has_22 (by decide) ?_
  exact z_iret F hr dX0_has_26 rfl (Nat.le_of_ble_eq_true rfl) (Nat.le_of_ble_eq_true rfl) (⟨rfl, rfl⟩)

set_option maxRecDepth 100000 in
set_option maxHeartbeats 1000000 in
theorem c_X0_has_n {h : z_H} {a o n : Nat} {f : Nat → Int32} {i : Int32} (H : A_at h a o n f) (hi : ¬ i < 0 → ¬ nI n ≤ i → False) : z_K yX0_has cX0_has 2 (some .boolean) 0 0 0 [.ref a, .int i] h (fun v h' => v = some (.int 0) ∧ h' = h) := by
  refine z_met vI_X0_has (Nat.le_of_ble_eq_true rfl) (fun G X F hr hnm => ?_)
  refine z_iload_n F dX0_has_0 rfl ?_
  refine z_if_lt (tgt := 25) F dX0_has_1 (by decide) (fun c1 => ?_) (fun c1 => ?_)
  · refine z_iconst (v := 0) F dX0_has_25 rfl ?_
    exact z_iret F hr dX0_has_26 rfl (Nat.le_of_ble_eq_true rfl) (Nat.le_of_ble_eq_true rfl) (⟨rfl, rfl⟩)
  · refine z_iload_n F dX0_has_4 rfl ?_
    refine z_aload_n F dX0_has_5 rfl rfl ?_
    refine z_getf F vF_X0_15 dX0_has_6 H.1 rfl ?_
    refine z_icmp_ge (tgt := 25) F dX0_has_9 (by decide) (fun c9 => ?_) (fun c9 => absurd (hi c1 c9) id)
    refine z_iconst (v := 0) F dX0_has_25 rfl ?_
    exact z_iret F hr dX0_has_26 rfl (Nat.le_of_ble_eq_true rfl) (Nat.le_of_ble_eq_true rfl) (⟨rfl, rfl⟩)

set_option maxRecDepth 100000 in
set_option maxHeartbeats 1000000 in
theorem c_X0_octetAt {h : z_H} {a o n : Nat} {f : Nat → Int32} {j : Nat} (H : A_at h a o n f) (hn : n ≤ 41) (hj : j < n) (hb : (f j).toInt8.toInt32 = f j) : z_K yX0_octetAt cX0_octetAt 2 (some .byte) 1 0 0 [.ref a, .int (nI j)] h (fun v h' => v = some (.int (f j)) ∧ h' = h) := by
  refine z_met vI_X0_octetAt (Nat.le_of_ble_eq_true rfl) (fun G X F hr hnm => ?_)
  refine z_aload_n F dX0_octetAt_0 rfl rfl ?_
  refine z_iload_n F dX0_octetAt_1 rfl ?_
  refine z_callV F z_nwOK wL_good (c_X0_has_y H hn hj) H.1 rfl vI_X0_has vM_X0_23 vV_X0_has vL_X0_has rfl dX0_octetAt_2 rfl rfl (Nat.le_of_ble_eq_true rfl) ⟨(Nat.le_of_ble_eq_true rfl), (Nat.le_of_ble_eq_true rfl), (Nat.le_of_ble_eq_true rfl), (Nat.le_of_ble_eq_true rfl)⟩ (fun v h1 hq => ?_)
  obtain ⟨rfl, rfl⟩ := hq
  refine z_if_eq (tgt := 17) F dX0_octetAt_5 (by decide) (fun c5 => absurd c5 (by decide)) (fun c5 => ?_)
  refine z_aload_n F dX0_octetAt_8 rfl rfl ?_
  refine z_getf F vF_X0_9 dX0_octetAt_9 H.1 rfl ?_
  refine z_iload_n F dX0_octetAt_12 rfl ?_
  refine z_bald F dX0_octetAt_13 H.2.1 rfl rfl (Nat.lt_of_lt_of_le hj hn) (Nat.le_of_ble_eq_true rfl) ?_
  refine z_goto (tgt := 18) F dX0_octetAt_14 (by decide) ?_
  exact z_iret F hr dX0_octetAt_18 (congrArg Value.int hb) (Nat.le_of_ble_eq_true rfl) (Nat.le_of_ble_eq_true rfl) (⟨rfl, rfl⟩)

set_option maxRecDepth 100000 in
set_option maxHeartbeats 1000000 in
theorem c_X0_init {h : z_H} {a : Nat} (ha : h[a]? = some (.inr (1, [.null, .int 0]))) : z_K yX0_init cX0_init 1 none 1 1 41 [.ref a] h (fun v h' => v = none ∧ h' = (h ++ [(.inl (1, 41, .inl (fun _ => 0)) : z_E)]).set a (.inr (1, [.ref h.length, .int 0]))) := by
  refine z_met vI_X0_init (Nat.le_of_ble_eq_true rfl) (fun G X F hr hnm => ?_)
  refine z_aload_n F dX0_init_0 rfl rfl ?_
  refine z_objInit F vM_X0_3 vO_i vO_c dX0_init_1 (Nat.le_of_ble_eq_true rfl) (Nat.le_of_ble_eq_true rfl) ?_
  refine z_aload_n F dX0_init_4 rfl rfl ?_
  refine z_bipush (v := 41) F dX0_init_5 rfl ?_
  refine z_newa (atype := .byte) (N := 41) (a0 := (41, (.inl (fun _ => 0)))) (t := 1) F vA_byte rfl (fun _ _ => rfl) (by decide) rfl (Nat.le_of_ble_eq_true rfl) dX0_init_7 (Nat.le_of_ble_eq_true rfl) (Nat.le_of_ble_eq_true rfl) ?_
  refine z_putF F vF_X0_9 vT_X0 vD_X0_0 ⟨_, rfl, rfl⟩ hnm dX0_init_9 (z_pa ha) (Nat.le_of_ble_eq_true rfl) rfl rfl (fun g9 => ?_)
  refine z_aload_n F dX0_init_12 rfl rfl ?_
  refine z_iconst (v := 0) F dX0_init_13 rfl ?_
  refine z_putf F vF_X0_15 vT_X0 vD_X0_1 dX0_init_14 g9 (Nat.le_of_ble_eq_true rfl) rfl rfl (fun g14 => ?_)
  exact z_vret F hr dX0_init_17 (Nat.le_of_ble_eq_true rfl) (Nat.le_of_ble_eq_true rfl) (⟨rfl, by rw [List.set_set]; rfl⟩)
end
section
/-! truth values, octets, numbers out of octets -/
def z_b (b : Bool) : Int32 := match b with
  | true => 1
  | false => 0
theorem z_b0 {b : Bool} : z_b b = 0 ↔ b = false := by cases b <;> decide
theorem z_bnar (b : Bool) : narrow .boolean (.int (z_b b)) = .int (z_b b) := by cases b <;> rfl
theorem z_bfit (b : Bool) : fits .boolean (.int (z_b b)) = true := by cases b <;> rfl
/-- octet k of a question of n octets f, 0 where there is none -/
def Qo (f : Nat → Int32) (n k : Nat) : Int32 := if k < n then f k &&& 255 else 0
def numL (g : Nat → Int32) : Nat → Int64
  | 0 => 0
  | k + 1 => (numL g k <<< ((8 : Int32).toInt64 &&& 63)) ||| (g k).toInt64
/-! Question: at q, its octets at o -/
def Q_o (o : Nat) (bg : Bool) (due n : Nat) (al : Bool) : z_E := .inr (3, [.ref o, .int (z_b bg), .int (nI due), .int (nI n), .int (z_b al)])
def Q_at (h : z_H) (q o : Nat) (bg : Bool) (due n : Nat) (al : Bool) (f : Nat → Int32) : Prop := h[q]? = some (.inr (3, [.ref o, .int (z_b bg), .int (nI due), .int (nI n), .int (z_b al)])) ∧ h[o]? = some (.inl (1, 60, .inl f)) ∧ q ≠ o
def Q_set (h : z_H) (q o : Nat) (bg : Bool) (due n : Nat) (al : Bool) (f : Nat → Int32) : z_H := (h.set o (.inl (1, 60, .inl f))).set q (Q_o o bg due n al)
theorem Q_ss {h : z_H} {q o due n due' n' : Nat} {bg al bg' al' : Bool} {f g : Nat → Int32} (H : Q_at h q o bg due n al f) : Q_at (Q_set h q o bg' due' n' al' g) q o bg' due' n' al' g :=
  ⟨z_ss (e := Q_o o bg due n al) (by rw [z_sn (Ne.symm H.2.2)]; exact H.1), by unfold Q_set; rw [z_sn H.2.2]; exact z_ss H.2.1, H.2.2⟩
theorem Q_set2 {h : z_H} {q o due n due' n' : Nat} {bg al bg' al' : Bool} {f g : Nat → Int32} (hne : q ≠ o) : Q_set (Q_set h q o bg due n al f) q o bg' due' n' al' g = Q_set h q o bg' due' n' al' g := by
  unfold Q_set
  rw [List.set_comm _ _ hne, List.set_set, List.set_set]
theorem Q_self {h : z_H} {q o due n : Nat} {bg al : Bool} {f : Nat → Int32} (H : Q_at h q o bg due n al f) : Q_set h q o bg due n al f = h := by
  unfold Q_set Q_o
  rw [z_sid H.2.1, z_sid H.1]
theorem Q_ne {h : z_H} {q o due n k : Nat} {bg al : Bool} {f : Nat → Int32} (h1 : q ≠ k) (h2 : o ≠ k) : (Q_set h q o bg due n al f)[k]? = h[k]? := by
  unfold Q_set
  rw [z_sn h1, z_sn h2]
theorem Q_len {h : z_H} {q o due n : Nat} {bg al : Bool} {f : Nat → Int32} : (Q_set h q o bg due n al f).length = h.length := by
  unfold Q_set
  rw [List.length_set, List.length_set]
theorem nI_min60 (m : Nat) (hm : m < 128) : (if (60 : Int32) < nI m then 60 else nI m) = nI (min m 60) := by
  rw [show (60 : Int32) = nI 60 from rfl]
  by_cases hc : m ≤ 60
  · rw [if_neg (show ¬ nI 60 < nI m from nI_nlt hc (by decide)), Nat.min_eq_left hc]
  · rw [if_pos (show nI 60 < nI m from nI_lt (by omega) (by omega)), Nat.min_eq_right (by omega)]

set_option maxRecDepth 100000 in
set_option maxHeartbeats 1000000 in
theorem c_X2_end {h : z_H} {q o due n : Nat} {bg al : Bool} {f : Nat → Int32} (H : Q_at h q o bg due n al f) : z_K yX2_end cX2_end 1 none 0 0 0 [.ref q] h (fun v h' => v = none ∧ h' = Q_set h q o false due n al f) := by
  refine z_met vI_X2_end (Nat.le_of_ble_eq_true rfl) (fun G X F hr hnm => ?_)
  refine z_aload_n F dX2_end_0 rfl rfl ?_
  refine z_iconst (v := 0) F dX2_end_1 rfl ?_
  refine z_putf F vF_X2_15 vT_X2 vD_X2_1 dX2_end_2 H.1 (Nat.le_of_ble_eq_true rfl) rfl rfl (fun g2 => ?_)
  exact z_vret F hr dX2_end_5 (Nat.le_of_ble_eq_true rfl) (Nat.le_of_ble_eq_true rfl) (⟨rfl, by unfold Q_set; rw [z_sid H.2.1]; rfl⟩)

set_option maxRecDepth 100000 in
set_option maxHeartbeats 1000000 in
theorem c_X2_isWhole {h : z_H} {q o due n : Nat} {bg al : Bool} {f : Nat → Int32} (H : Q_at h q o bg due n al f) (hn : n ≤ 60) (hd : due ≤ 60) : z_K yX2_isWhole cX2_isWhole 1 (some .boolean) 0 0 0 [.ref q] h (fun v h' => v = some (.int (z_b (bg && decide (due ≤ n)))) ∧ h' = h) := by
  refine z_met vI_X2_isWhole (Nat.le_of_ble_eq_true rfl) (fun G X F hr hnm => ?_)
  refine z_aload_n F dX2_isWhole_0 rfl rfl ?_
  refine z_getf F vF_X2_15 dX2_isWhole_1 H.1 rfl ?_
  refine z_if_eq (tgt := 22) F dX2_isWhole_4 (by decide) (fun c4 => ?_) (fun c4 => ?_)
  · have hz : (bg && decide (due ≤ n)) = false := by rw [z_b0.mp c4]; rfl
    refine z_iconst (v := 0) F dX2_isWhole_22 rfl ?_
    exact z_iret F hr dX2_isWhole_23 rfl (Nat.le_of_ble_eq_true rfl) (Nat.le_of_ble_eq_true rfl) (⟨by rw [hz]; rfl, rfl⟩)
  · refine z_aload_n F dX2_isWhole_7 rfl rfl ?_
    refine z_getf F vF_X2_23 dX2_isWhole_8 H.1 rfl ?_
    refine z_aload_n F dX2_isWhole_11 rfl rfl ?_
    refine z_getf F vF_X2_19 dX2_isWhole_12 H.1 rfl ?_
    refine z_icmp_lt (tgt := 22) F dX2_isWhole_15 (by decide) (fun c15 => ?_) (fun c15 => ?_)
    · have hz : (bg && decide (due ≤ n)) = false := by have := (nI_ltI (by omega) (by omega)).mp c15; simp; intro _; omega
      refine z_iconst (v := 0) F dX2_isWhole_22 rfl ?_
      exact z_iret F hr dX2_isWhole_23 rfl (Nat.le_of_ble_eq_true rfl) (Nat.le_of_ble_eq_true rfl) (⟨by rw [hz]; rfl, rfl⟩)
    · have h2 : bg = true := by cases bg <;> first | rfl | exact absurd rfl c4
      have h3 : ¬ n < due := fun q => c15 ((nI_ltI (by omega) (by omega)).mpr q)
      have hz : (bg && decide (due ≤ n)) = true := by rw [h2, decide_eq_true (Nat.not_lt.mp h3)]; rfl
      refine z_iconst (v := 1) F dX2_isWhole_18 rfl ?_
      refine z_goto (tgt := 23) F dX2_isWhole_19 (by decide) ?_
      exact z_iret F hr dX2_isWhole_23 rfl (Nat.le_of_ble_eq_true rfl) (Nat.le_of_ble_eq_true rfl) (⟨by rw [hz]; rfl, rfl⟩)

set_option maxRecDepth 100000 in
set_option maxHeartbeats 1000000 in
theorem c_X2_isEmpty {h : z_H} {q o due n : Nat} {bg al : Bool} {f : Nat → Int32} (H : Q_at h q o bg due n al f) (hn : n ≤ 60) : z_K yX2_isEmpty cX2_isEmpty 1 (some .boolean) 0 0 0 [.ref q] h (fun v h' => v = some (.int (z_b (decide (n = 0)))) ∧ h' = h) := by
  refine z_met vI_X2_isEmpty (Nat.le_of_ble_eq_true rfl) (fun G X F hr hnm => ?_)
  refine z_aload_n F dX2_isEmpty_0 rfl rfl ?_
  refine z_getf F vF_X2_23 dX2_isEmpty_1 H.1 rfl ?_
  refine z_if_ne (tgt := 11) F dX2_isEmpty_4 (by decide) (fun c4 => ?_) (fun c4 => ?_)
  · have hz : decide (n = 0) = false := by simp; intro e; exact c4 (by rw [e]; rfl)
    refine z_iconst (v := 0) F dX2_isEmpty_11 rfl ?_
    exact z_iret F hr dX2_isEmpty_12 rfl (Nat.le_of_ble_eq_true rfl) (Nat.le_of_ble_eq_true rfl) (⟨by rw [hz]; rfl, rfl⟩)
  · have hz : decide (n = 0) = true := by have := (nI_eq (b := 0) (by omega) (by decide)).mp c4; simp [this]
    refine z_iconst (v := 1) F dX2_isEmpty_7 rfl ?_
    refine z_goto (tgt := 12) F dX2_isEmpty_8 (by decide) ?_
    exact z_iret F hr dX2_isEmpty_12 rfl (Nat.le_of_ble_eq_true rfl) (Nat.le_of_ble_eq_true rfl) (⟨by rw [hz]; rfl, rfl⟩)

set_option maxRecDepth 100000 in
set_option maxHeartbeats 1000000 in
theorem c_X2_service {h : z_H} {q o due n : Nat} {bg al : Bool} {f : Nat → Int32} (H : Q_at h q o bg due n al f) (hn : n ≤ 60) : z_K yX2_service cX2_service 1 (some .int) 0 0 0 [.ref q] h (fun v h' => v = some (.int (Qo f n 0)) ∧ h' = h) := by
  refine z_met vI_X2_service (Nat.le_of_ble_eq_true rfl) (fun G X F hr hnm => ?_)
  refine z_aload_n F dX2_service_0 rfl rfl ?_
  refine z_getf F vF_X2_23 dX2_service_1 H.1 rfl ?_
  refine z_if_ne (tgt := 11) F dX2_service_4 (by decide) (fun c4 => ?_) (fun c4 => ?_)
  · have hz : Qo f n 0 = f 0 &&& 255 := if_pos (Nat.pos_of_ne_zero (fun e => c4 (by rw [e]; rfl)))
    refine z_aload_n F dX2_service_11 rfl rfl ?_
    refine z_getf F vF_X2_9 dX2_service_12 H.1 rfl ?_
    refine z_iconst (v := 0) F dX2_service_15 rfl ?_
    refine z_bald F dX2_service_16 H.2.1 rfl rfl (show 0 < 60 by decide) (Nat.le_of_ble_eq_true rfl) ?_
    refine z_sipush (v := 255) F dX2_service_17 rfl ?_
    refine z_iand F dX2_service_20 ?_
    exact z_iret F hr dX2_service_21 rfl (Nat.le_of_ble_eq_true rfl) (Nat.le_of_ble_eq_true rfl) (⟨by rw [hz], rfl⟩)
  · have hz : Qo f n 0 = 0 := if_neg (by have := (nI_eq (b := 0) (by omega) (by decide)).mp c4; omega)
    refine z_iconst (v := 0) F dX2_service_7 rfl ?_
    refine z_goto (tgt := 21) F dX2_service_8 (by decide) ?_
    exact z_iret F hr dX2_service_21 rfl (Nat.le_of_ble_eq_true rfl) (Nat.le_of_ble_eq_true rfl) (⟨by rw [hz], rfl⟩)

set_option maxRecDepth 100000 in
set_option maxHeartbeats 1000000 in
theorem c_X2_size {h : z_H} {q o due n : Nat} {bg al : Bool} {f : Nat → Int32} (H : Q_at h q o bg due n al f) (hn : n ≤ 60) : z_K yX2_size cX2_size 1 (some .int) 0 0 0 [.ref q] h (fun v h' => v = some (.int (nI (n - 1))) ∧ h' = h) := by
  refine z_met vI_X2_size (Nat.le_of_ble_eq_true rfl) (fun G X F hr hnm => ?_)
  refine z_aload_n F dX2_size_0 rfl rfl ?_
  refine z_getf F vF_X2_23 dX2_size_1 H.1 rfl ?_
  refine z_if_ne (tgt := 11) F dX2_size_4 (by decide) (fun c4 => ?_) (fun c4 => ?_)
  · have hz : nI n - 1 = nI (n - 1) := pk_sub (b := 1) (Nat.pos_of_ne_zero (fun e => c4 (by rw [e]; rfl)))
    refine z_aload_n F dX2_size_11 rfl rfl ?_
    refine z_getf F vF_X2_23 dX2_size_12 H.1 rfl ?_
    refine z_iconst (v := 1) F dX2_size_15 rfl ?_
    refine z_isub F dX2_size_16 ?_
    exact z_iret F hr dX2_size_17 rfl (Nat.le_of_ble_eq_true rfl) (Nat.le_of_ble_eq_true rfl) (⟨by rw [hz], rfl⟩)
  · have hz : (0 : Int32) = nI (n - 1) := by have := (nI_eq (b := 0) (by omega) (by decide)).mp c4; subst this; rfl
    refine z_iconst (v := 0) F dX2_size_7 rfl ?_
    refine z_goto (tgt := 17) F dX2_size_8 (by decide) ?_
    exact z_iret F hr dX2_size_17 rfl (Nat.le_of_ble_eq_true rfl) (Nat.le_of_ble_eq_true rfl) (⟨by rw [hz], rfl⟩)

set_option maxRecDepth 100000 in
set_option maxHeartbeats 1000000 in
theorem c_X2_octetAt {h : z_H} {q o due n : Nat} {bg al : Bool} {f : Nat → Int32} {p : Nat} (H : Q_at h q o bg due n al f) (hn : n ≤ 60) (hp : p < 100) : z_K yX2_octetAt cX2_octetAt 3 (some .int) 0 0 0 [.ref q, .int (nI p)] h (fun v h' => v = some (.int (Qo f n (p + 1))) ∧ h' = h) := by
  refine z_met vI_X2_octetAt (Nat.le_of_ble_eq_true rfl) (fun G X F hr hnm => ?_)
  refine z_iload_n F dX2_octetAt_0 rfl ?_
  refine z_iconst (v := 1) F dX2_octetAt_1 rfl ?_
  refine z_iadd F dX2_octetAt_2 ?_
  rw [nI_1]
  refine z_istore_n F dX2_octetAt_3 (Nat.le_of_ble_eq_true rfl) ?_
  refine z_iload_n F dX2_octetAt_4 rfl ?_
  refine z_iconst (v := 1) F dX2_octetAt_5 rfl ?_
  refine z_icmp_lt (tgt := 26) F dX2_octetAt_6 (by decide) (fun c6 => absurd c6 (show ¬ nI (p + 1) < nI 1 from nI_nlt (by omega) (by omega))) (fun c6 => ?_)
  refine z_iload_n F dX2_octetAt_9 rfl ?_
  refine z_aload_n F dX2_octetAt_10 rfl rfl ?_
  refine z_getf F vF_X2_23 dX2_octetAt_11 H.1 rfl ?_
  refine z_icmp_ge (tgt := 26) F dX2_octetAt_14 (by decide) (fun c14 => ?_) (fun c14 => ?_)
  · have hz : Qo f n (p + 1) = 0 := if_neg (by have := (nI_leI (by omega) (by omega)).mp c14; omega)
    refine z_iconst (v := 0) F dX2_octetAt_26 rfl ?_
    refine z_goto (tgt := 40) F dX2_octetAt_27 (by decide) ?_
    exact z_iret F hr dX2_octetAt_40 rfl (Nat.le_of_ble_eq_true rfl) (Nat.le_of_ble_eq_true rfl) (⟨by rw [hz], rfl⟩)
  · have hp2 : p + 1 < n := by have := mt (nI_leI (a := n) (b := p + 1) (by omega) (by omega)).mpr c14; omega
    have hz : Qo f n (p + 1) = f (p + 1) &&& 255 := if_pos hp2
    refine z_iload_n F dX2_octetAt_17 rfl ?_
    refine z_aload_n F dX2_octetAt_18 rfl rfl ?_
    refine z_getf F vF_X2_9 dX2_octetAt_19 H.1 rfl ?_
    refine z_alen (v := nI 60) F dX2_octetAt_22 H.2.1 rfl rfl ?_
    refine z_icmp_lt (tgt := 30) F dX2_octetAt_23 (by decide) (fun c23 => ?_) (fun c23 => absurd (nI_lt (show p + 1 < 60 by omega) (by decide)) c23)
    refine z_aload_n F dX2_octetAt_30 rfl rfl ?_
    refine z_getf F vF_X2_9 dX2_octetAt_31 H.1 rfl ?_
    refine z_iload_n F dX2_octetAt_34 rfl ?_
    refine z_bald F dX2_octetAt_35 H.2.1 rfl rfl (show p + 1 < 60 by omega) (Nat.le_of_ble_eq_true rfl) ?_
    refine z_sipush (v := 255) F dX2_octetAt_36 rfl ?_
    refine z_iand F dX2_octetAt_39 ?_
    exact z_iret F hr dX2_octetAt_40 rfl (Nat.le_of_ble_eq_true rfl) (Nat.le_of_ble_eq_true rfl) (⟨by rw [hz], rfl⟩)

set_option maxRecDepth 100000 in
set_option maxHeartbeats 1000000 in
theorem c_X2_word {h : z_H} {q o due n : Nat} {bg al : Bool} {f : Nat → Int32} {p : Nat} (H : Q_at h q o bg due n al f) (hn : n ≤ 60) (hp : p < 99) : z_K yX2_word cX2_word 2 (some .int) 1 0 0 [.ref q, .int (nI p)] h (fun v h' => v = some (.int ((Qo f n (p + 1) <<< ((8 : Int32) &&& 31)) ||| Qo f n (p + 2))) ∧ h' = h) := by
  refine z_met vI_X2_word (Nat.le_of_ble_eq_true rfl) (fun G X F hr hnm => ?_)
  refine z_aload_n F dX2_word_0 rfl rfl ?_
  refine z_iload_n F dX2_word_1 rfl ?_
  refine z_callV F z_nwOK wL_good (c_X2_octetAt H hn (by omega)) H.1 rfl vI_X2_octetAt vM_X2_35 vV_X2_octetAt vL_X2_octetAt rfl dX2_word_2 rfl rfl (Nat.le_of_ble_eq_true rfl) ⟨(Nat.le_of_ble_eq_true rfl), (Nat.le_of_ble_eq_true rfl), (Nat.le_of_ble_eq_true rfl), (Nat.le_of_ble_eq_true rfl)⟩ (fun v h1 hq => ?_)
  obtain ⟨rfl, rfl⟩ := hq
  refine z_bipush (v := 8) F dX2_word_5 rfl ?_
  refine z_ishl F dX2_word_7 ?_
  refine z_aload_n F dX2_word_8 rfl rfl ?_
  refine z_iload_n F dX2_word_9 rfl ?_
  refine z_iconst (v := 1) F dX2_word_10 rfl ?_
  refine z_iadd F dX2_word_11 ?_
  rw [nI_1]
  refine z_callV F z_nwOK wL_good (c_X2_octetAt H hn (by omega)) H.1 rfl vI_X2_octetAt vM_X2_35 vV_X2_octetAt vL_X2_octetAt rfl dX2_word_12 rfl rfl (Nat.le_of_ble_eq_true rfl) ⟨(Nat.le_of_ble_eq_true rfl), (Nat.le_of_ble_eq_true rfl), (Nat.le_of_ble_eq_true rfl), (Nat.le_of_ble_eq_true rfl)⟩ (fun v h1 hq => ?_)
  obtain ⟨rfl, rfl⟩ := hq
  refine z_ior F dX2_word_15 ?_
  exact z_iret F hr dX2_word_16 rfl (Nat.le_of_ble_eq_true rfl) (Nat.le_of_ble_eq_true rfl) (⟨rfl, rfl⟩)

set_option maxRecDepth 100000 in
set_option maxHeartbeats 1000000 in
theorem c_X2_function {h : z_H} {q o due n : Nat} {bg al : Bool} {f : Nat → Int32} (H : Q_at h q o bg due n al f) (hn : n ≤ 60) : z_K yX2_function cX2_function 1 (some .int) 1 0 0 [.ref q] h (fun v h' => v = some (.int (Qo f n 1 &&& 127)) ∧ h' = h) := by
  refine z_met vI_X2_function (Nat.le_of_ble_eq_true rfl) (fun G X F hr hnm => ?_)
  refine z_aload_n F dX2_function_0 rfl rfl ?_
  refine z_iconst (v := 0) F dX2_function_1 rfl ?_
  refine z_callV F z_nwOK wL_good (c_X2_octetAt (p := 0) H hn (by omega)) H.1 rfl vI_X2_octetAt vM_X2_35 vV_X2_octetAt vL_X2_octetAt rfl dX2_function_2 rfl rfl (Nat.le_of_ble_eq_true rfl) ⟨(Nat.le_of_ble_eq_true rfl), (Nat.le_of_ble_eq_true rfl), (Nat.le_of_ble_eq_true rfl), (Nat.le_of_ble_eq_true rfl)⟩ (fun v h1 hq => ?_)
  obtain ⟨rfl, rfl⟩ := hq
  refine z_bipush (v := 127) F dX2_function_5 rfl ?_
  refine z_iand F dX2_function_7 ?_
  exact z_iret F hr dX2_function_8 rfl (Nat.le_of_ble_eq_true rfl) (Nat.le_of_ble_eq_true rfl) (⟨rfl, rfl⟩)

set_option maxRecDepth 100000 in
set_option maxHeartbeats 1000000 in
theorem l_X2_number {h : z_H} {q o due n p L : Nat} {bg al : Bool} {f : Nat → Int32} {G : z_G} {X : z_X} {Q' : Option Value → z_H → Prop} (F : z_F vwCl z_ats z_nw wsL_law G RX2 cX2_number 6 (z_rm 1 0 0) X) (hr : X.2.2.2.2.2.2.2.2.1.sig.returnType = some .long) (H : Q_at h q o bg due n al f) (hn : n ≤ 60) (hL : p + L < 100) (hq' : Q' (some (.long (numL (fun i => Qo f n (p + 1 + i)) L))) h) :
    ∀ (k i : Nat), i + k = L → z_V vwCl G 6 X (z_end vwCl z_ats z_nw G X 0 0 Q') 0 0 5 [(0, .ref q), (1, .int (nI p)), (2, .int (nI L)), (3, .long (numL (fun i => Qo f n (p + 1 + i)) i)), (5, .int (nI i))] [] h := by
  intro k
  induction k with
  | zero =>
    intro i hi
    obtain rfl : i = L := by omega
    refine z_iload F dX2_number_5 rfl ?_
    refine z_iload_n F dX2_number_7 rfl ?_
    refine z_icmp_ge (tgt := 32) F dX2_number_8 (by decide) (fun c8 => ?_) (fun c8 => absurd (nI_le (Nat.le_refl i) (by omega)) c8)
    refine z_lload_n F dX2_number_32 rfl ?_
    exact z_lret F hr dX2_number_33 (Nat.le_of_ble_eq_true rfl) (Nat.le_of_ble_eq_true rfl) (hq')
  | succ k ih =>
    intro i hi
    refine z_iload F dX2_number_5 rfl ?_
    refine z_iload_n F dX2_number_7 rfl ?_
    refine z_icmp_ge (tgt := 32) F dX2_number_8 (by decide) (fun c8 => absurd c8 (nI_ge (show i < L by omega) (by omega))) (fun c8 => ?_)
    refine z_lload_n F dX2_number_11 rfl ?_
    refine z_bipush (v := 8) F dX2_number_12 rfl ?_
    refine z_lshl F dX2_number_14 ?_
    refine z_aload_n F dX2_number_15 rfl rfl ?_
    refine z_iload_n F dX2_number_16 rfl ?_
    refine z_iload F dX2_number_17 rfl ?_
    refine z_iadd F dX2_number_19 ?_
    rw [nI_add]
    refine z_callV F z_nwOK wL_good (c_X2_octetAt (p := p + i) H hn (by omega)) H.1 rfl vI_X2_octetAt vM_X2_35 vV_X2_octetAt vL_X2_octetAt rfl dX2_number_20 rfl rfl (Nat.le_of_ble_eq_true rfl) ⟨(Nat.le_of_ble_eq_true rfl), (Nat.le_of_ble_eq_true rfl), (Nat.le_of_ble_eq_true rfl), (Nat.le_of_ble_eq_true rfl)⟩ (fun v h1 hq => ?_)
    obtain ⟨rfl, rfl⟩ := hq
    rw [show p + i + 1 = p + 1 + i by omega]
    refine z_i2l F dX2_number_23 ?_
    refine z_lor F dX2_number_24 ?_
    refine z_lstore_n F dX2_number_25 (Nat.le_of_ble_eq_true rfl) ?_
    refine z_iinc (w := 1) F dX2_number_26 rfl rfl (Nat.le_of_ble_eq_true rfl) ?_
    rw [nI_1]
    refine z_goto (tgt := 5) F dX2_number_29 (by decide) ?_
    exact ih (i + 1) (by omega)

set_option maxRecDepth 100000 in
set_option maxHeartbeats 1000000 in
theorem c_X2_number {h : z_H} {q o due n : Nat} {bg al : Bool} {f : Nat → Int32} {p L : Nat} (H : Q_at h q o bg due n al f) (hn : n ≤ 60) (hL : p + L < 100) : z_K yX2_number cX2_number 6 (some .long) 1 0 0 [.ref q, .int (nI p), .int (nI L)] h (fun v h' => v = some (.long (numL (fun i => Qo f n (p + 1 + i)) L)) ∧ h' = h) := by
  refine z_met vI_X2_number (Nat.le_of_ble_eq_true rfl) (fun G X F hr hnm => ?_)
  refine z_lconst (v := 0) F dX2_number_0 rfl ?_
  refine z_lstore_n F dX2_number_1 (Nat.le_of_ble_eq_true rfl) ?_
  refine z_iconst (v := 0) F dX2_number_2 rfl ?_
  refine z_istore F dX2_number_3 (Nat.le_of_ble_eq_true rfl) ?_
  exact l_X2_number F hr H hn hL ⟨rfl, rfl⟩ L 0 (by omega)

set_option maxRecDepth 100000 in
set_option maxHeartbeats 1000000 in
theorem c_X2_take0 {h : z_H} {q o due n : Nat} {al : Bool} {f : Nat → Int32} (b : Int32) (H : Q_at h q o false due n al f) : z_K yX2_take cX2_take 2 none 1 0 0 [.ref q, .int b] h (fun v h' => v = none ∧ h' = Q_set h q o true (min (b.toBitVec.toNat % 128) 60) 0 (decide (b < 0)) f) := by
  refine z_met vI_X2_take (Nat.le_of_ble_eq_true rfl) (fun G X F hr hnm => ?_)
  refine z_aload_n F dX2_take_0 rfl rfl ?_
  refine z_getf F vF_X2_15 dX2_take_1 H.1 rfl ?_
  refine z_if_ne (tgt := 46) F dX2_take_4 (by decide) (fun c4 => absurd rfl c4) (fun c4 => ?_)
  refine z_aload_n F dX2_take_7 rfl rfl ?_
  refine z_iconst (v := 1) F dX2_take_8 rfl ?_
  refine z_putf F vF_X2_15 vT_X2 vD_X2_1 dX2_take_9 H.1 (Nat.le_of_ble_eq_true rfl) rfl rfl (fun g9 => ?_)
  refine z_aload_n F dX2_take_12 rfl rfl ?_
  refine z_iload_n F dX2_take_13 rfl ?_
  refine z_if_ge (tgt := 21) F dX2_take_14 (by decide) (fun c14 => ?_) (fun c14 => ?_)
  · refine z_iconst (v := 0) F dX2_take_21 rfl ?_
    refine z_putf F vF_X2_26 vT_X2 vD_X2_4 dX2_take_22 g9 (Nat.le_of_ble_eq_true rfl) (z_bnar false) (z_bfit false) (fun g22 => ?_)
    refine z_aload_n F dX2_take_25 rfl rfl ?_
    refine z_iload_n F dX2_take_26 rfl ?_
    refine z_bipush (v := 127) F dX2_take_27 rfl ?_
    refine z_iand F dX2_take_29 ?_
    refine z_bipush (v := 60) F dX2_take_30 rfl ?_
    rw [pk_and b 7 (by decide)]
    refine z_mmin F vM_X2_29 dX2_take_32 (Nat.le_of_ble_eq_true rfl) (Nat.le_of_ble_eq_true rfl) (Nat.le_of_ble_eq_true rfl) (Nat.le_of_ble_eq_true rfl) ?_
    rw [nI_min60 _ (Nat.mod_lt _ (by decide))]
    refine z_putf F vF_X2_19 vT_X2 vD_X2_2 dX2_take_35 g22 (Nat.le_of_ble_eq_true rfl) rfl rfl (fun g35 => ?_)
    refine z_aload_n F dX2_take_38 rfl rfl ?_
    refine z_iconst (v := 0) F dX2_take_39 rfl ?_
    refine z_putf F vF_X2_23 vT_X2 vD_X2_3 dX2_take_40 g35 (Nat.le_of_ble_eq_true rfl) rfl rfl (fun g40 => ?_)
    refine z_goto (tgt := 85) F dX2_take_43 (by decide) ?_
    exact z_vret F hr dX2_take_85 (Nat.le_of_ble_eq_true rfl) (Nat.le_of_ble_eq_true rfl) (⟨rfl, by rw [List.set_set, List.set_set, List.set_set, show decide (b < 0) = false from decide_eq_false (k2_nlt c14)]; unfold Q_set; rw [z_sid H.2.1]; rfl⟩)
  · refine z_iconst (v := 1) F dX2_take_17 rfl ?_
    refine z_goto (tgt := 22) F dX2_take_18 (by decide) ?_
    refine z_putf F vF_X2_26 vT_X2 vD_X2_4 dX2_take_22 g9 (Nat.le_of_ble_eq_true rfl) (z_bnar true) (z_bfit true) (fun g22 => ?_)
    refine z_aload_n F dX2_take_25 rfl rfl ?_
    refine z_iload_n F dX2_take_26 rfl ?_
    refine z_bipush (v := 127) F dX2_take_27 rfl ?_
    refine z_iand F dX2_take_29 ?_
    refine z_bipush (v := 60) F dX2_take_30 rfl ?_
    rw [pk_and b 7 (by decide)]
    refine z_mmin F vM_X2_29 dX2_take_32 (Nat.le_of_ble_eq_true rfl) (Nat.le_of_ble_eq_true rfl) (Nat.le_of_ble_eq_true rfl) (Nat.le_of_ble_eq_true rfl) ?_
    rw [nI_min60 _ (Nat.mod_lt _ (by decide))]
    refine z_putf F vF_X2_19 vT_X2 vD_X2_2 dX2_take_35 g22 (Nat.le_of_ble_eq_true rfl) rfl rfl (fun g35 => ?_)
    refine z_aload_n F dX2_take_38 rfl rfl ?_
    refine z_iconst (v := 0) F dX2_take_39 rfl ?_
    refine z_putf F vF_X2_23 vT_X2 vD_X2_3 dX2_take_40 g35 (Nat.le_of_ble_eq_true rfl) rfl rfl (fun g40 => ?_)
    refine z_goto (tgt := 85) F dX2_take_43 (by decide) ?_
    exact z_vret F hr dX2_take_85 (Nat.le_of_ble_eq_true rfl) (Nat.le_of_ble_eq_true rfl) (⟨rfl, by rw [List.set_set, List.set_set, List.set_set, show decide (b < 0) = true from decide_eq_true (k2_lt c14)]; unfold Q_set; rw [z_sid H.2.1]; rfl⟩)

set_option maxRecDepth 100000 in
set_option maxHeartbeats 1000000 in
theorem c_X2_take1 {h : z_H} {q o due n : Nat} {al : Bool} {f : Nat → Int32} (b : Int32) (H : Q_at h q o true due n al f) (hn : n < 60) : z_K yX2_take cX2_take 2 none 1 0 0 [.ref q, .int b] h (fun v h' => v = none ∧ h' = Q_set h q o true due (n + 1) al (upd f n b.toInt8.toInt32)) := by
  refine z_met vI_X2_take (Nat.le_of_ble_eq_true rfl) (fun G X F hr hnm => ?_)
  refine z_aload_n F dX2_take_0 rfl rfl ?_
  refine z_getf F vF_X2_15 dX2_take_1 H.1 rfl ?_
  refine z_if_ne (tgt := 46) F dX2_take_4 (by decide) (fun c4 => ?_) (fun c4 => absurd c4 (by decide))
  refine z_aload_n F dX2_take_46 rfl rfl ?_
  refine z_getf F vF_X2_23 dX2_take_47 H.1 rfl ?_
  refine z_if_lt (tgt := 85) F dX2_take_50 (by decide) (fun c50 => absurd c50 (nI_pos (by omega))) (fun c50 => ?_)
  refine z_aload_n F dX2_take_53 rfl rfl ?_
  refine z_getf F vF_X2_23 dX2_take_54 H.1 rfl ?_
  refine z_aload_n F dX2_take_57 rfl rfl ?_
  refine z_getf F vF_X2_9 dX2_take_58 H.1 rfl ?_
  refine z_alen (v := nI 60) F dX2_take_61 H.2.1 rfl rfl ?_
  refine z_icmp_ge (tgt := 85) F dX2_take_62 (by decide) (fun c62 => absurd c62 (nI_ge hn (by decide))) (fun c62 => ?_)
  refine z_aload_n F dX2_take_65 rfl rfl ?_
  refine z_getf F vF_X2_9 dX2_take_66 H.1 rfl ?_
  refine z_aload_n F dX2_take_69 rfl rfl ?_
  refine z_getf F vF_X2_23 dX2_take_70 H.1 rfl ?_
  refine z_iload_n F dX2_take_73 rfl ?_
  refine z_bast F dX2_take_74 H.2.1 rfl rfl hn (Nat.le_of_ble_eq_true rfl) ?_
  have g1 : (h.set o (.inl (1, 60, .inl (upd f n b.toInt8.toInt32))))[q]? = some (.inr (3, [.ref o, .int (z_b true), .int (nI due), .int (nI n), .int (z_b al)])) := by rw [z_sn (Ne.symm H.2.2)]; exact H.1
  refine z_aload_n F dX2_take_75 rfl rfl ?_
  refine z_dup F dX2_take_76 rfl ?_
  refine z_getf F vF_X2_23 dX2_take_77 g1 rfl ?_
  refine z_iconst (v := 1) F dX2_take_80 rfl ?_
  refine z_iadd F dX2_take_81 ?_
  rw [nI_1]
  refine z_putf F vF_X2_23 vT_X2 vD_X2_3 dX2_take_82 g1 (Nat.le_of_ble_eq_true rfl) rfl rfl (fun g82 => ?_)
  exact z_vret F hr dX2_take_85 (Nat.le_of_ble_eq_true rfl) (Nat.le_of_ble_eq_true rfl) (⟨rfl, rfl⟩)

/-- is no answer wanted: the octet behind the service, the service -/
def Qw (x s : Int32) : Bool := decide (127 < x) && (decide (s = 16) || decide (s = 17) || decide (s = 49) || decide (s = 62))

set_option maxRecDepth 100000 in
set_option maxHeartbeats 1000000 in
theorem c_X2_wantsNoAnswer {h : z_H} {q o due n : Nat} {bg al : Bool} {f : Nat → Int32} (H : Q_at h q o bg due n al f) (hn : n ≤ 60) : z_K yX2_wantsNoAnswer cX2_wantsNoAnswer 2 (some .boolean) 1 0 0 [.ref q] h (fun v h' => v = some (.int (z_b (Qw (Qo f n 1) (Qo f n 0)))) ∧ h' = h) := by
  refine z_met vI_X2_wantsNoAnswer (Nat.le_of_ble_eq_true rfl) (fun G X F hr hnm => ?_)
  refine z_aload_n F dX2_wantsNoAnswer_0 rfl rfl ?_
  refine z_callV F z_nwOK wL_good (c_X2_service H hn) H.1 rfl vI_X2_service vM_X2_39 vV_X2_service vL_X2_service rfl dX2_wantsNoAnswer_1 rfl rfl (Nat.le_of_ble_eq_true rfl) ⟨(Nat.le_of_ble_eq_true rfl), (Nat.le_of_ble_eq_true rfl), (Nat.le_of_ble_eq_true rfl), (Nat.le_of_ble_eq_true rfl)⟩ (fun v h1 hq => ?_)
  obtain ⟨rfl, rfl⟩ := hq
  refine z_istore_n F dX2_wantsNoAnswer_4 (Nat.le_of_ble_eq_true rfl) ?_
  refine z_aload_n F dX2_wantsNoAnswer_5 rfl rfl ?_
  refine z_iconst (v := 0) F dX2_wantsNoAnswer_6 rfl ?_
  refine z_callV F z_nwOK wL_good (c_X2_octetAt (p := 0) H hn (by omega)) H.1 rfl vI_X2_octetAt vM_X2_35 vV_X2_octetAt vL_X2_octetAt rfl dX2_wantsNoAnswer_7 rfl rfl (Nat.le_of_ble_eq_true rfl) ⟨(Nat.le_of_ble_eq_true rfl), (Nat.le_of_ble_eq_true rfl), (Nat.le_of_ble_eq_true rfl), (Nat.le_of_ble_eq_true rfl)⟩ (fun v h1 hq => ?_)
  obtain ⟨rfl, rfl⟩ := hq
  refine z_bipush (v := 127) F dX2_wantsNoAnswer_10 rfl ?_
  refine z_icmp_le (tgt := 43) F dX2_wantsNoAnswer_12 (by decide) (fun c12 => ?_) (fun c12 => ?_)
  · have hz : Qw (Qo f n 1) (Qo f n 0) = false := by unfold Qw; rw [decide_eq_false (fun q => absurd c12 (k2_nle q))]; rfl
    refine z_iconst (v := 0) F dX2_wantsNoAnswer_43 rfl ?_
    exact z_iret F hr dX2_wantsNoAnswer_44 rfl (Nat.le_of_ble_eq_true rfl) (Nat.le_of_ble_eq_true rfl) (⟨by rw [hz]; rfl, rfl⟩)
  · refine z_iload_n F dX2_wantsNoAnswer_15 rfl ?_
    refine z_bipush (v := 16) F dX2_wantsNoAnswer_16 rfl ?_
    refine z_icmp_eq (tgt := 39) F dX2_wantsNoAnswer_18 (by decide) (fun c18 => ?_) (fun c18 => ?_)
    · have hz : Qw (Qo f n 1) (Qo f n 0) = true := by unfold Qw; rw [decide_eq_true (k2_lt c12)]; simp [c18]
      refine z_iconst (v := 1) F dX2_wantsNoAnswer_39 rfl ?_
      refine z_goto (tgt := 44) F dX2_wantsNoAnswer_40 (by decide) ?_
      exact z_iret F hr dX2_wantsNoAnswer_44 rfl (Nat.le_of_ble_eq_true rfl) (Nat.le_of_ble_eq_true rfl) (⟨by rw [hz]; rfl, rfl⟩)
    · refine z_iload_n F dX2_wantsNoAnswer_21 rfl ?_
      refine z_bipush (v := 17) F dX2_wantsNoAnswer_22 rfl ?_
      refine z_icmp_eq (tgt := 39) F dX2_wantsNoAnswer_24 (by decide) (fun c24 => ?_) (fun c24 => ?_)
      · have hz : Qw (Qo f n 1) (Qo f n 0) = true := by unfold Qw; rw [decide_eq_true (k2_lt c12)]; simp [c24]
        refine z_iconst (v := 1) F dX2_wantsNoAnswer_39 rfl ?_
        refine z_goto (tgt := 44) F dX2_wantsNoAnswer_40 (by decide) ?_
        exact z_iret F hr dX2_wantsNoAnswer_44 rfl (Nat.le_of_ble_eq_true rfl) (Nat.le_of_ble_eq_true rfl) (⟨by rw [hz]; rfl, rfl⟩)
      · refine z_iload_n F dX2_wantsNoAnswer_27 rfl ?_
        refine z_bipush (v := 49) F dX2_wantsNoAnswer_28 rfl ?_
        refine z_icmp_eq (tgt := 39) F dX2_wantsNoAnswer_30 (by decide) (fun c30 => ?_) (fun c30 => ?_)
        · have hz : Qw (Qo f n 1) (Qo f n 0) = true := by unfold Qw; rw [decide_eq_true (k2_lt c12)]; simp [c30]
          refine z_iconst (v := 1) F dX2_wantsNoAnswer_39 rfl ?_
          refine z_goto (tgt := 44) F dX2_wantsNoAnswer_40 (by decide) ?_
          exact z_iret F hr dX2_wantsNoAnswer_44 rfl (Nat.le_of_ble_eq_true rfl) (Nat.le_of_ble_eq_true rfl) (⟨by rw [hz]; rfl, rfl⟩)
        · refine z_iload_n F dX2_wantsNoAnswer_33 rfl ?_
          refine z_bipush (v := 62) F dX2_wantsNoAnswer_34 rfl ?_
          refine z_icmp_ne (tgt := 43) F dX2_wantsNoAnswer_36 (by decide) (fun c36 => ?_) (fun c36 => ?_)
          · have hz : Qw (Qo f n 1) (Qo f n 0) = false := by unfold Qw; simp [c18, c24, c30, c36]
            refine z_iconst (v := 0) F dX2_wantsNoAnswer_43 rfl ?_
            exact z_iret F hr dX2_wantsNoAnswer_44 rfl (Nat.le_of_ble_eq_true rfl) (Nat.le_of_ble_eq_true rfl) (⟨by rw [hz]; rfl, rfl⟩)
          · have hz : Qw (Qo f n 1) (Qo f n 0) = true := by unfold Qw; rw [decide_eq_true (k2_lt c12)]; simp [c36]
            refine z_iconst (v := 1) F dX2_wantsNoAnswer_39 rfl ?_
            refine z_goto (tgt := 44) F dX2_wantsNoAnswer_40 (by decide) ?_
            exact z_iret F hr dX2_wantsNoAnswer_44 rfl (Nat.le_of_ble_eq_true rfl) (Nat.le_of_ble_eq_true rfl) (⟨by rw [hz]; rfl, rfl⟩)

set_option maxRecDepth 100000 in
set_option maxHeartbeats 1000000 in
theorem c_X2_init {h : z_H} {a : Nat} (ha : h[a]? = some (.inr (3, [.null, .int 0, .int 0, .int 0, .int 0]))) : z_K yX2_init cX2_init 1 none 1 1 60 [.ref a] h (fun v h' => v = none ∧ h' = (h ++ [(.inl (1, 60, .inl (fun _ => 0)) : z_E)]).set a (Q_o h.length false 0 0 false)) := by
  refine z_met vI_X2_init (Nat.le_of_ble_eq_true rfl) (fun G X F hr hnm => ?_)
  refine z_aload_n F dX2_init_0 rfl rfl ?_
  refine z_objInit F vM_X2_3 vO_i vO_c dX2_init_1 (Nat.le_of_ble_eq_true rfl) (Nat.le_of_ble_eq_true rfl) ?_
  refine z_aload_n F dX2_init_4 rfl rfl ?_
  refine z_bipush (v := 60) F dX2_init_5 rfl ?_
  refine z_newa (atype := .byte) (N := 60) (a0 := (60, (.inl (fun _ => 0)))) (t := 1) F vA_byte rfl (fun _ _ => rfl) (by decide) rfl (Nat.le_of_ble_eq_true rfl) dX2_init_7 (Nat.le_of_ble_eq_true rfl) (Nat.le_of_ble_eq_true rfl) ?_
  refine z_putF F vF_X2_9 vT_X2 vD_X2_0 ⟨_, rfl, rfl⟩ hnm dX2_init_9 (z_pa ha) (Nat.le_of_ble_eq_true rfl) rfl rfl (fun g9 => ?_)
  refine z_aload_n F dX2_init_12 rfl rfl ?_
  refine z_iconst (v := 0) F dX2_init_13 rfl ?_
  refine z_putf F vF_X2_15 vT_X2 vD_X2_1 dX2_init_14 g9 (Nat.le_of_ble_eq_true rfl) rfl rfl (fun g14 => ?_)
  refine z_aload_n F dX2_init_17 rfl rfl ?_
  refine z_iconst (v := 0) F dX2_init_18 rfl ?_
  refine z_putf F vF_X2_19 vT_X2 vD_X2_2 dX2_init_19 g14 (Nat.le_of_ble_eq_true rfl) rfl rfl (fun g19 => ?_)
  refine z_aload_n F dX2_init_22 rfl rfl ?_
  refine z_iconst (v := 0) F dX2_init_23 rfl ?_
  refine z_putf F vF_X2_23 vT_X2 vD_X2_3 dX2_init_24 g19 (Nat.le_of_ble_eq_true rfl) rfl rfl (fun g24 => ?_)
  refine z_aload_n F dX2_init_27 rfl rfl ?_
  refine z_iconst (v := 0) F dX2_init_28 rfl ?_
  refine z_putf F vF_X2_26 vT_X2 vD_X2_4 dX2_init_29 g24 (Nat.le_of_ble_eq_true rfl) rfl rfl (fun g29 => ?_)
  exact z_vret F hr dX2_init_32 (Nat.le_of_ble_eq_true rfl) (Nat.le_of_ble_eq_true rfl) (⟨rfl, by simp only [List.set_set]; rfl⟩)
end
section
theorem A_keep {h h' : z_H} {a o n : Nat} {f : Nat → Int32} (H : A_at h a o n f) (h1 : h'[a]? = h[a]?) (h2 : h'[o]? = h[o]?) : A_at h' a o n f := ⟨h1.trans H.1, h2.trans H.2.1, H.2.2⟩
theorem Q_keep {h h' : z_H} {q o due n : Nat} {bg al : Bool} {f : Nat → Int32} (H : Q_at h q o bg due n al f) (h1 : h'[q]? = h[q]?) (h2 : h'[o]? = h[o]?) : Q_at h' q o bg due n al f := ⟨h1.trans H.1, h2.trans H.2.1, H.2.2⟩
/-- octets as numbers -/
def Qn (f : Nat → Int32) (n k : Nat) : Nat := if k < n then (f k).toBitVec.toNat % 256 else 0
theorem Qo_nI (f : Nat → Int32) (n k : Nat) : Qo f n k = nI (Qn f n k) := by
  unfold Qo Qn
  split
  · exact pk_and _ 8 (by decide)
  · rfl
theorem Qn_lt (f : Nat → Int32) (n k : Nat) : Qn f n k < 256 := by
  unfold Qn
  split
  · exact Nat.mod_lt _ (by decide)
  · decide
def sumN (s : Nat) (g : Nat → Nat) : Nat → Nat
  | 0 => s
  | k + 1 => (sumN s g k + g k) % 65536
theorem sumN_lt {s : Nat} (hs : s < 65536) (g : Nat → Nat) : ∀ k, sumN s g k < 65536
  | 0 => hs
  | _ + 1 => Nat.mod_lt _ (by decide)
/-! Routine -/
abbrev R_o (id : Int32) (steps : Nat) (st : Bool) (left w : Nat) : z_E := .inr (4, [.int id, .int (nI steps), .int (z_b st), .int (nI left), .int (nI w)])
/-! Transfer -/
abbrev T_o (op : Bool) (ms sm bl : Nat) : z_E := .inr (5, [.int (z_b op), .int (nI ms), .int (nI sm), .int (nI bl)])

set_option maxRecDepth 100000 in
set_option maxHeartbeats 1000000 in
theorem c_X3_init {h : z_H} {r s : Nat} {id : Int32} (hr0 : h[r]? = some (.inr (4, [.int 0, .int 0, .int 0, .int 0, .int 0]))) : z_K yX3_init cX3_init 3 none 1 0 0 [.ref r, .int id, .int (nI s)] h (fun v h' => v = none ∧ h' = h.set r (R_o id s false 0 0)) := by
  refine z_met vI_X3_init (Nat.le_of_ble_eq_true rfl) (fun G X F hr hnm => ?_)
  refine z_aload_n F dX3_init_0 rfl rfl ?_
  refine z_objInit F vM_X3_1 vO_i vO_c dX3_init_1 (Nat.le_of_ble_eq_true rfl) (Nat.le_of_ble_eq_true rfl) ?_
  refine z_aload_n F dX3_init_4 rfl rfl ?_
  refine z_iconst (v := 0) F dX3_init_5 rfl ?_
  refine z_putf F vF_X3_7 vT_X3 vD_X3_2 dX3_init_6 hr0 (Nat.le_of_ble_eq_true rfl) rfl rfl (fun g6 => ?_)
  refine z_aload_n F dX3_init_9 rfl rfl ?_
  refine z_iconst (v := 0) F dX3_init_10 rfl ?_
  refine z_putf F vF_X3_13 vT_X3 vD_X3_3 dX3_init_11 g6 (Nat.le_of_ble_eq_true rfl) rfl rfl (fun g11 => ?_)
  refine z_aload_n F dX3_init_14 rfl rfl ?_
  refine z_iconst (v := 0) F dX3_init_15 rfl ?_
  refine z_putf F vF_X3_17 vT_X3 vD_X3_4 dX3_init_16 g11 (Nat.le_of_ble_eq_true rfl) rfl rfl (fun g16 => ?_)
  refine z_aload_n F dX3_init_19 rfl rfl ?_
  refine z_iload_n F dX3_init_20 rfl ?_
  refine z_putF F vF_X3_20 vT_X3 vD_X3_0 ⟨_, rfl, rfl⟩ hnm dX3_init_21 g16 (Nat.le_of_ble_eq_true rfl) rfl rfl (fun g21 => ?_)
  refine z_aload_n F dX3_init_24 rfl rfl ?_
  refine z_iload_n F dX3_init_25 rfl ?_
  refine z_putF F vF_X3_23 vT_X3 vD_X3_1 ⟨_, rfl, rfl⟩ hnm dX3_init_26 g21 (Nat.le_of_ble_eq_true rfl) rfl rfl (fun g26 => ?_)
  exact z_vret F hr dX3_init_29 (Nat.le_of_ble_eq_true rfl) (Nat.le_of_ble_eq_true rfl) (⟨rfl, by simp only [List.set_set]; rfl⟩)

set_option maxRecDepth 100000 in
set_option maxHeartbeats 1000000 in
theorem c_X3_start {h : z_H} {r s l w : Nat} {id : Int32} {st : Bool} (hr0 : h[r]? = some (R_o id s st l w)) : z_K yX3_start cX3_start 1 none 0 0 0 [.ref r] h (fun v h' => v = none ∧ h' = h.set r (R_o id s true s 0)) := by
  refine z_met vI_X3_start (Nat.le_of_ble_eq_true rfl) (fun G X F hr hnm => ?_)
  refine z_aload_n F dX3_start_0 rfl rfl ?_
  refine z_iconst (v := 1) F dX3_start_1 rfl ?_
  refine z_putf F vF_X3_7 vT_X3 vD_X3_2 dX3_start_2 hr0 (Nat.le_of_ble_eq_true rfl) rfl rfl (fun g2 => ?_)
  refine z_aload_n F dX3_start_5 rfl rfl ?_
  refine z_aload_n F dX3_start_6 rfl rfl ?_
  refine z_getf F vF_X3_23 dX3_start_7 g2 rfl ?_
  refine z_putf F vF_X3_13 vT_X3 vD_X3_3 dX3_start_10 g2 (Nat.le_of_ble_eq_true rfl) rfl rfl (fun g10 => ?_)
  refine z_aload_n F dX3_start_13 rfl rfl ?_
  refine z_iconst (v := 0) F dX3_start_14 rfl ?_
  refine z_putf F vF_X3_17 vT_X3 vD_X3_4 dX3_start_15 g10 (Nat.le_of_ble_eq_true rfl) rfl rfl (fun g15 => ?_)
  exact z_vret F hr dX3_start_18 (Nat.le_of_ble_eq_true rfl) (Nat.le_of_ble_eq_true rfl) (⟨rfl, by simp only [List.set_set]; rfl⟩)

set_option maxRecDepth 100000 in
set_option maxHeartbeats 1000000 in
theorem c_X3_forget {h : z_H} {r s l w : Nat} {id : Int32} {st : Bool} (hr0 : h[r]? = some (R_o id s st l w)) : z_K yX3_forget cX3_forget 1 none 0 0 0 [.ref r] h (fun v h' => v = none ∧ h' = h.set r (R_o id s false 0 w)) := by
  refine z_met vI_X3_forget (Nat.le_of_ble_eq_true rfl) (fun G X F hr hnm => ?_)
  refine z_aload_n F dX3_forget_0 rfl rfl ?_
  refine z_iconst (v := 0) F dX3_forget_1 rfl ?_
  refine z_putf F vF_X3_7 vT_X3 vD_X3_2 dX3_forget_2 hr0 (Nat.le_of_ble_eq_true rfl) rfl rfl (fun g2 => ?_)
  refine z_aload_n F dX3_forget_5 rfl rfl ?_
  refine z_iconst (v := 0) F dX3_forget_6 rfl ?_
  refine z_putf F vF_X3_13 vT_X3 vD_X3_3 dX3_forget_7 g2 (Nat.le_of_ble_eq_true rfl) rfl rfl (fun g7 => ?_)
  exact z_vret F hr dX3_forget_10 (Nat.le_of_ble_eq_true rfl) (Nat.le_of_ble_eq_true rfl) (⟨rfl, by simp only [List.set_set]; rfl⟩)

set_option maxRecDepth 100000 in
set_option maxHeartbeats 1000000 in
theorem c_X3_step {h : z_H} {r s l w : Nat} {id : Int32} {st : Bool} (hr0 : h[r]? = some (R_o id s st l w)) (hl : l < 1000) : z_K yX3_step cX3_step 1 none 0 0 0 [.ref r] h (fun v h' => v = none ∧ h' = h.set r (R_o id s st (if st then l - 1 else l) w)) := by
  refine z_met vI_X3_step (Nat.le_of_ble_eq_true rfl) (fun G X F hr hnm => ?_)
  refine z_aload_n F dX3_step_0 rfl rfl ?_
  refine z_getf F vF_X3_7 dX3_step_1 hr0 rfl ?_
  refine z_if_eq (tgt := 24) F dX3_step_4 (by decide) (fun c4 => ?_) (fun c4 => ?_)
  · have hs := z_b0.mp c4
    subst hs
    exact z_vret F hr dX3_step_24 (Nat.le_of_ble_eq_true rfl) (Nat.le_of_ble_eq_true rfl) ⟨rfl, (z_sid hr0).symm⟩
  · refine z_aload_n F dX3_step_7 rfl rfl ?_
    refine z_getf F vF_X3_13 dX3_step_8 hr0 rfl ?_
    refine z_if_le (tgt := 24) F dX3_step_11 (by decide) (fun c11 => ?_) (fun c11 => ?_)
    · have h1 : l = 0 := by have := (nI_leI (b := 0) (by omega) (by decide)).mp c11; omega
      subst h1
      exact z_vret F hr dX3_step_24 (Nat.le_of_ble_eq_true rfl) (Nat.le_of_ble_eq_true rfl) ⟨rfl, by cases st <;> exact (z_sid hr0).symm⟩
    · have h1 : 0 < l := by have := mt (nI_leI (a := l) (b := 0) (by omega) (by decide)).mpr c11; omega
      have h2 : st = true := by cases st <;> first | rfl | exact absurd rfl c4
      subst h2
      refine z_aload_n F dX3_step_14 rfl rfl ?_
      refine z_dup F dX3_step_15 rfl ?_
      refine z_getf F vF_X3_13 dX3_step_16 hr0 rfl ?_
      refine z_iconst (v := 1) F dX3_step_19 rfl ?_
      refine z_isub F dX3_step_20 ?_
      rw [show nI l - 1 = nI (l - 1) from pk_sub (b := 1) h1]
      refine z_putf F vF_X3_13 vT_X3 vD_X3_3 dX3_step_21 hr0 (Nat.le_of_ble_eq_true rfl) rfl rfl (fun g21 => ?_)
      exact z_vret F hr dX3_step_24 (Nat.le_of_ble_eq_true rfl) (Nat.le_of_ble_eq_true rfl) (⟨rfl, rfl⟩)

set_option maxRecDepth 100000 in
set_option maxHeartbeats 1000000 in
theorem c_X4_init {h : z_H} {t : Nat} (ht : h[t]? = some (.inr (5, [.int 0, .int 0, .int 0, .int 0]))) : z_K yX4_init cX4_init 1 none 1 0 0 [.ref t] h (fun v h' => v = none ∧ h' = h.set t (T_o false 0 0 0)) := by
  refine z_met vI_X4_init (Nat.le_of_ble_eq_true rfl) (fun G X F hr hnm => ?_)
  refine z_aload_n F dX4_init_0 rfl rfl ?_
  refine z_objInit F vM_X4_1 vO_i vO_c dX4_init_1 (Nat.le_of_ble_eq_true rfl) (Nat.le_of_ble_eq_true rfl) ?_
  refine z_aload_n F dX4_init_4 rfl rfl ?_
  refine z_iconst (v := 0) F dX4_init_5 rfl ?_
  refine z_putf F vF_X4_7 vT_X4 vD_X4_0 dX4_init_6 ht (Nat.le_of_ble_eq_true rfl) rfl rfl (fun g6 => ?_)
  refine z_aload_n F dX4_init_9 rfl rfl ?_
  refine z_iconst (v := 0) F dX4_init_10 rfl ?_
  refine z_putf F vF_X4_13 vT_X4 vD_X4_1 dX4_init_11 g6 (Nat.le_of_ble_eq_true rfl) rfl rfl (fun g11 => ?_)
  refine z_aload_n F dX4_init_14 rfl rfl ?_
  refine z_iconst (v := 0) F dX4_init_15 rfl ?_
  refine z_putf F vF_X4_17 vT_X4 vD_X4_2 dX4_init_16 g11 (Nat.le_of_ble_eq_true rfl) rfl rfl (fun g16 => ?_)
  refine z_aload_n F dX4_init_19 rfl rfl ?_
  refine z_iconst (v := 0) F dX4_init_20 rfl ?_
  refine z_putf F vF_X4_20 vT_X4 vD_X4_3 dX4_init_21 g16 (Nat.le_of_ble_eq_true rfl) rfl rfl (fun g21 => ?_)
  exact z_vret F hr dX4_init_24 (Nat.le_of_ble_eq_true rfl) (Nat.le_of_ble_eq_true rfl) (⟨rfl, by simp only [List.set_set]; rfl⟩)

set_option maxRecDepth 100000 in
set_option maxHeartbeats 1000000 in
theorem c_X4_open {h : z_H} {t ms sm bl : Nat} {op : Bool} (ht : h[t]? = some (T_o op ms sm bl)) (k : Nat) : z_K yX4_open cX4_open 2 none 0 0 0 [.ref t, .int (nI k)] h (fun v h' => v = none ∧ h' = h.set t (T_o true k 0 0)) := by
  refine z_met vI_X4_open (Nat.le_of_ble_eq_true rfl) (fun G X F hr hnm => ?_)
  refine z_aload_n F dX4_open_0 rfl rfl ?_
  refine z_iconst (v := 1) F dX4_open_1 rfl ?_
  refine z_putf F vF_X4_7 vT_X4 vD_X4_0 dX4_open_2 ht (Nat.le_of_ble_eq_true rfl) rfl rfl (fun g2 => ?_)
  refine z_aload_n F dX4_open_5 rfl rfl ?_
  refine z_iload_n F dX4_open_6 rfl ?_
  refine z_putf F vF_X4_13 vT_X4 vD_X4_1 dX4_open_7 g2 (Nat.le_of_ble_eq_true rfl) rfl rfl (fun g7 => ?_)
  refine z_aload_n F dX4_open_10 rfl rfl ?_
  refine z_iconst (v := 0) F dX4_open_11 rfl ?_
  refine z_putf F vF_X4_17 vT_X4 vD_X4_2 dX4_open_12 g7 (Nat.le_of_ble_eq_true rfl) rfl rfl (fun g12 => ?_)
  refine z_aload_n F dX4_open_15 rfl rfl ?_
  refine z_iconst (v := 0) F dX4_open_16 rfl ?_
  refine z_putf F vF_X4_20 vT_X4 vD_X4_3 dX4_open_17 g12 (Nat.le_of_ble_eq_true rfl) rfl rfl (fun g17 => ?_)
  exact z_vret F hr dX4_open_20 (Nat.le_of_ble_eq_true rfl) (Nat.le_of_ble_eq_true rfl) (⟨rfl, by simp only [List.set_set]; rfl⟩)

set_option maxRecDepth 100000 in
set_option maxHeartbeats 1000000 in
theorem c_X4_close {h : z_H} {t ms sm bl : Nat} {op : Bool} (ht : h[t]? = some (T_o op ms sm bl)) : z_K yX4_close cX4_close 1 none 0 0 0 [.ref t] h (fun v h' => v = none ∧ h' = h.set t (T_o false 0 sm bl)) := by
  refine z_met vI_X4_close (Nat.le_of_ble_eq_true rfl) (fun G X F hr hnm => ?_)
  refine z_aload_n F dX4_close_0 rfl rfl ?_
  refine z_iconst (v := 0) F dX4_close_1 rfl ?_
  refine z_putf F vF_X4_7 vT_X4 vD_X4_0 dX4_close_2 ht (Nat.le_of_ble_eq_true rfl) rfl rfl (fun g2 => ?_)
  refine z_aload_n F dX4_close_5 rfl rfl ?_
  refine z_iconst (v := 0) F dX4_close_6 rfl ?_
  refine z_putf F vF_X4_13 vT_X4 vD_X4_1 dX4_close_7 g2 (Nat.le_of_ble_eq_true rfl) rfl rfl (fun g7 => ?_)
  exact z_vret F hr dX4_close_10 (Nat.le_of_ble_eq_true rfl) (Nat.le_of_ble_eq_true rfl) (⟨rfl, by simp only [List.set_set]; rfl⟩)

set_option maxRecDepth 100000 in
set_option maxHeartbeats 1000000 in
theorem c_X4_nextBlock {h : z_H} {t ms sm bl : Nat} {op : Bool} (ht : h[t]? = some (T_o op ms sm bl)) (hb : bl < 1000) : z_K yX4_nextBlock cX4_nextBlock 1 (some .int) 0 0 0 [.ref t] h (fun v h' => v = some (.int (nI ((bl + 1) % 256))) ∧ h' = h) := by
  refine z_met vI_X4_nextBlock (Nat.le_of_ble_eq_true rfl) (fun G X F hr hnm => ?_)
  refine z_aload_n F dX4_nextBlock_0 rfl rfl ?_
  refine z_getf F vF_X4_20 dX4_nextBlock_1 ht rfl ?_
  refine z_iconst (v := 1) F dX4_nextBlock_4 rfl ?_
  refine z_iadd F dX4_nextBlock_5 ?_
  rw [nI_1]
  refine z_sipush (v := 255) F dX4_nextBlock_6 rfl ?_
  refine z_iand F dX4_nextBlock_9 ?_
  rw [pk_andN (show bl + 1 < 2 ^ 32 by omega) 8 (by decide)]
  exact z_iret F hr dX4_nextBlock_10 rfl (Nat.le_of_ble_eq_true rfl) (Nat.le_of_ble_eq_true rfl) (⟨rfl, rfl⟩)

set_option maxRecDepth 100000 in
set_option maxHeartbeats 1000000 in
theorem c_X4_isBlockBefore {h : z_H} {t ms sm bl : Nat} {op : Bool} (ht : h[t]? = some (T_o op ms sm bl)) (c : Int32) (hb : bl < 1000) : z_K yX4_isBlockBefore cX4_isBlockBefore 2 (some .boolean) 0 0 0 [.ref t, .int c] h (fun v h' => v = some (.int (z_b (decide (0 < bl) && decide (c = nI (bl % 256))))) ∧ h' = h) := by
  refine z_met vI_X4_isBlockBefore (Nat.le_of_ble_eq_true rfl) (fun G X F hr hnm => ?_)
  refine z_aload_n F dX4_isBlockBefore_0 rfl rfl ?_
  refine z_getf F vF_X4_20 dX4_isBlockBefore_1 ht rfl ?_
  refine z_if_le (tgt := 23) F dX4_isBlockBefore_4 (by decide) (fun c4 => ?_) (fun c4 => ?_)
  · have hz : (decide (0 < bl) && decide (c = nI (bl % 256))) = false := by rw [decide_eq_false (by have := (nI_leI (b := 0) (by omega) (by decide)).mp c4; omega)]; rfl
    refine z_iconst (v := 0) F dX4_isBlockBefore_23 rfl ?_
    exact z_iret F hr dX4_isBlockBefore_24 rfl (Nat.le_of_ble_eq_true rfl) (Nat.le_of_ble_eq_true rfl) (⟨by rw [hz]; rfl, rfl⟩)
  · have hb0 : decide (0 < bl) = true := decide_eq_true (by have := mt (nI_leI (a := bl) (b := 0) (by omega) (by decide)).mpr c4; omega)
    refine z_iload_n F dX4_isBlockBefore_7 rfl ?_
    refine z_aload_n F dX4_isBlockBefore_8 rfl rfl ?_
    refine z_getf F vF_X4_20 dX4_isBlockBefore_9 ht rfl ?_
    refine z_sipush (v := 255) F dX4_isBlockBefore_12 rfl ?_
    refine z_iand F dX4_isBlockBefore_15 ?_
    rw [pk_andN (show bl < 2 ^ 32 by omega) 8 (by decide)]
    refine z_icmp_ne (tgt := 23) F dX4_isBlockBefore_16 (by decide) (fun c16 => ?_) (fun c16 => ?_)
    · have hz : (decide (0 < bl) && decide (c = nI (bl % 256))) = false := by rw [hb0, decide_eq_false c16]; rfl
      refine z_iconst (v := 0) F dX4_isBlockBefore_23 rfl ?_
      exact z_iret F hr dX4_isBlockBefore_24 rfl (Nat.le_of_ble_eq_true rfl) (Nat.le_of_ble_eq_true rfl) (⟨by rw [hz]; rfl, rfl⟩)
    · have hz : (decide (0 < bl) && decide (c = nI (bl % 256))) = true := by rw [hb0, decide_eq_true c16]; rfl
      refine z_iconst (v := 1) F dX4_isBlockBefore_19 rfl ?_
      refine z_goto (tgt := 24) F dX4_isBlockBefore_20 (by decide) ?_
      exact z_iret F hr dX4_isBlockBefore_24 rfl (Nat.le_of_ble_eq_true rfl) (Nat.le_of_ble_eq_true rfl) (⟨by rw [hz]; rfl, rfl⟩)

set_option maxRecDepth 100000 in
set_option maxHeartbeats 1000000 in
theorem l_X4_add {h : z_H} {t ms sm bl q o due n k : Nat} {op bg al : Bool} {f : Nat → Int32} (ht : h[t]? = some (T_o op ms sm bl)) (H : Q_at h q o bg due n al f) (htq : t ≠ q) (hto : t ≠ o) (hn : n ≤ 60) (hk : k < 60) (hsm : sm < 65536) (hkm : k ≤ ms) (hms : ms < 1000) (hbl : bl < 1000) {G : z_G} {X : z_X} (F : z_F vwCl z_ats z_nw wsL_law G RX4 cX4_add 4 (z_rm 1 0 0) X) (hr : X.2.2.2.2.2.2.2.2.1.sig.returnType = none) :
    ∀ (m i : Nat), i + m = k → z_V vwCl G 4 X (z_end vwCl z_ats z_nw G X 0 0 (fun v h' => v = none ∧ h' = h.set t (T_o op (ms - k) (sumN sm (fun i => Qn f n (i + 2)) k) (bl + 1)))) 0 0 2 [(0, .ref t), (1, .ref q), (2, .int (nI k)), (3, .int (nI (i + 1)))] [] (h.set t (T_o op ms (sumN sm (fun i => Qn f n (i + 2)) i) bl)) := by
  intro m
  induction m with
  | zero =>
    intro i hi
    obtain rfl : i = k := by omega
    have g0 := z_ss (c := T_o op ms (sumN sm (fun i => Qn f n (i + 2)) i) bl) ht
    refine z_iload_n F dX4_add_2 rfl ?_
    refine z_iload_n F dX4_add_3 rfl ?_
    refine z_icmp_gt (tgt := 30) F dX4_add_4 (by decide) (fun c4 => ?_) (fun c4 => absurd (nI_lt (show i < i + 1 by omega) (by omega)) c4)
    refine z_aload_n F dX4_add_30 rfl rfl ?_
    refine z_dup F dX4_add_31 rfl ?_
    refine z_getf F vF_X4_13 dX4_add_32 g0 rfl ?_
    refine z_iload_n F dX4_add_35 rfl ?_
    refine z_isub F dX4_add_36 ?_
    rw [pk_sub hkm]
    refine z_putf F vF_X4_13 vT_X4 vD_X4_1 dX4_add_37 g0 (Nat.le_of_ble_eq_true rfl) rfl rfl (fun g37 => ?_)
    refine z_aload_n F dX4_add_40 rfl rfl ?_
    refine z_dup F dX4_add_41 rfl ?_
    refine z_getf F vF_X4_20 dX4_add_42 g37 rfl ?_
    refine z_iconst (v := 1) F dX4_add_45 rfl ?_
    refine z_iadd F dX4_add_46 ?_
    rw [nI_1]
    refine z_putf F vF_X4_20 vT_X4 vD_X4_3 dX4_add_47 g37 (Nat.le_of_ble_eq_true rfl) rfl rfl (fun g47 => ?_)
    exact z_vret F hr dX4_add_50 (Nat.le_of_ble_eq_true rfl) (Nat.le_of_ble_eq_true rfl) (⟨rfl, by simp only [List.set_set]; rfl⟩)
  | succ m ih =>
    intro i hi
    have g0 := z_ss (c := T_o op ms (sumN sm (fun i => Qn f n (i + 2)) i) bl) ht
    have HQ := Q_keep (h' := h.set t (T_o op ms (sumN sm (fun i => Qn f n (i + 2)) i) bl)) H (z_sn htq) (z_sn hto)
    have hs := sumN_lt hsm (fun i => Qn f n (i + 2)) i
    have hx := Qn_lt f n (i + 1 + 1)
    refine z_iload_n F dX4_add_2 rfl ?_
    refine z_iload_n F dX4_add_3 rfl ?_
    refine z_icmp_gt (tgt := 30) F dX4_add_4 (by decide) (fun c4 => absurd c4 (nI_nlt (show i + 1 ≤ k by omega) (by omega))) (fun c4 => ?_)
    refine z_aload_n F dX4_add_7 rfl rfl ?_
    refine z_aload_n F dX4_add_8 rfl rfl ?_
    refine z_getf F vF_X4_17 dX4_add_9 g0 rfl ?_
    refine z_aload_n F dX4_add_12 rfl rfl ?_
    refine z_iload_n F dX4_add_13 rfl ?_
    refine z_callV F z_nwOK wL_good (c_X2_octetAt (p := i + 1) HQ hn (by omega)) HQ.1 rfl vI_X2_octetAt vM_X4_23 vV_X2_octetAt vL_X2_octetAt rfl dX4_add_14 rfl rfl (Nat.le_of_ble_eq_true rfl) ⟨(Nat.le_of_ble_eq_true rfl), (Nat.le_of_ble_eq_true rfl), (Nat.le_of_ble_eq_true rfl), (Nat.le_of_ble_eq_true rfl)⟩ (fun v h1 hq => ?_)
    obtain ⟨rfl, rfl⟩ := hq
    rw [Qo_nI]
    refine z_iadd F dX4_add_17 ?_
    rw [nI_add]
    refine z_ldc F vK_X4_29 dX4_add_18 ?_
    refine z_iand F dX4_add_20 ?_
    rw [pk_andN (show sumN sm (fun i => Qn f n (i + 2)) i + Qn f n (i + 1 + 1) < 2 ^ 32 by omega) 16 (by decide)]
    refine z_putf F vF_X4_17 vT_X4 vD_X4_2 dX4_add_21 g0 (Nat.le_of_ble_eq_true rfl) rfl rfl (fun g21 => ?_)
    refine z_iinc (w := 1) F dX4_add_24 rfl rfl (Nat.le_of_ble_eq_true rfl) ?_
    rw [nI_1]
    refine z_goto (tgt := 2) F dX4_add_27 (by decide) ?_
    simp only [List.set_set]
    exact ih (i + 1) (by omega)

set_option maxRecDepth 100000 in
set_option maxHeartbeats 1000000 in
theorem c_X4_add {h : z_H} {t ms sm bl q o due n k : Nat} {op bg al : Bool} {f : Nat → Int32} (ht : h[t]? = some (T_o op ms sm bl)) (H : Q_at h q o bg due n al f) (htq : t ≠ q) (hto : t ≠ o) (hn : n ≤ 60) (hk : k < 60) (hsm : sm < 65536) (hkm : k ≤ ms) (hms : ms < 1000) (hbl : bl < 1000) : z_K yX4_add cX4_add 4 none 1 0 0 [.ref t, .ref q, .int (nI k)] h (fun v h' => v = none ∧ h' = h.set t (T_o op (ms - k) (sumN sm (fun i => Qn f n (i + 2)) k) (bl + 1))) := by
  refine z_met vI_X4_add (Nat.le_of_ble_eq_true rfl) (fun G X F hr hnm => ?_)
  refine z_iconst (v := 1) F dX4_add_0 rfl ?_
  refine z_istore_n F dX4_add_1 (Nat.le_of_ble_eq_true rfl) ?_
  have hl := l_X4_add ht H htq hto hn hk hsm hkm hms hbl F hr k 0 (by omega)
  rw [show h.set t (T_o op ms (sumN sm (fun i => Qn f n (i + 2)) 0) bl) = h from z_sid ht] at hl
  exact hl
end
section
/-! octets of a value -/
def octV (v : Int64) (s : Nat) : Nat := v.toBitVec.toNat / 2 ^ s % 256
theorem octV_lt (v : Int64) (s : Nat) : octV v s < 256 := Nat.mod_lt _ (by decide)
theorem z_lo8 (x : Int64) : x.toInt32 &&& 255 = nI (x.toBitVec.toNat % 256) := by
  rw [pk_and x.toInt32 8 (by decide)]
  congr 1
  rw [Int64.toBitVec_toInt32, BitVec.signExtend_eq_setWidth_of_le _ (by decide), BitVec.toNat_setWidth]
  omega
theorem z_cnt : ∀ k, k < 64 → ((nI k).toInt64.toUInt64 &&& Int64.toUInt64 63) = UInt64.ofNat k := by decide +kernel
theorem z_cnt2 : ∀ k, k < 64 → ((nI k).toInt64 &&& 63).toBitVec.smod 64 = BitVec.ofNat 64 k := by decide +kernel
theorem z_ushr8 (v : Int64) {s : Nat} (hs : s < 64) : (v.toUInt64 >>> ((nI s).toInt64.toUInt64 &&& Int64.toUInt64 63)).toInt64.toInt32 &&& 255 = nI (octV v s) := by
  rw [z_lo8, z_cnt s hs]
  congr 1
  show (v.toUInt64 >>> UInt64.ofNat s).toNat % 256 = _
  have h1 : (UInt64.ofNat s).toNat = s := by
    show (BitVec.ofNat 64 s).toNat = s
    rw [BitVec.toNat_ofNat, Nat.mod_eq_of_lt (by omega)]
  rw [UInt64.toNat_shiftRight, h1, Nat.mod_eq_of_lt hs, Nat.shiftRight_eq_div_pow]
  rfl
theorem z_sar (V : BitVec 64) (s : Nat) (hs : s ≤ 56) : (V.sshiftRight s).toNat % 2 ^ 8 = V.toNat / 2 ^ s % 2 ^ 8 := by
  apply Nat.eq_of_testBit_eq
  intro i
  rw [Nat.testBit_mod_two_pow, Nat.testBit_mod_two_pow, Nat.testBit_div_two_pow]
  by_cases hi : i < 8
  · simp only [hi, decide_true, Bool.true_and]
    rw [BitVec.testBit_toNat, BitVec.getLsbD_sshiftRight, BitVec.testBit_toNat]
    have h1 : ¬ 64 ≤ i := by omega
    have h2 : s + i < 64 := by omega
    simp [h1, h2, Nat.add_comm]
  · simp [hi]
theorem z_shr8 (v : Int64) {s : Nat} (hs : s ≤ 56) : (v >>> ((nI s).toInt64 &&& 63)).toInt32 &&& 255 = nI (octV v s) := by
  rw [z_lo8]
  congr 1
  show (BitVec.sshiftRight v.toBitVec (((nI s).toInt64 &&& 63).toBitVec.smod 64).toNat).toNat % 2 ^ 8 = _
  rw [z_cnt2 s (by omega), BitVec.toNat_ofNat, Nat.mod_eq_of_lt (show s < 2 ^ 64 by omega), z_sar _ _ hs]
  rfl
theorem z_sh {len p : Nat} (hp : p < len) : (8 : Int32) * (nI len - 1 - nI p) = nI (8 * (len - 1 - p)) := by
  rw [show nI len - 1 = nI (len - 1) from pk_sub (b := 1) (by omega), pk_sub (by omega)]
  exact pk_mul 8 _
/-! Identifier -/
abbrev I_o (id : Int32) (ses lev : Nat) (tog : Bool) (len : Nat) (mbw : Bool) (own : Int64) (hd : Bool) (hv : Int64) (src plc : Nat) : z_E := .inr (2, [.int id, .int (nI ses), .int (nI lev), .int (z_b tog), .int (nI len), .int (z_b mbw), .long own, .int (z_b hd), .long hv, .ref src, .ref plc])
theorem z_spush {h : z_H} {a : Nat} {c e x : z_E} (ha : h[a]? = some x) : h.set a c ++ [e] = (h ++ [e]).set a c := (List.set_append_left _ _ (List.getElem?_eq_some_iff.mp ha).1).symm

set_option maxRecDepth 100000 in
set_option maxHeartbeats 1000000 in
theorem c_X1_init_n {h : z_H} {a len ses lev : Nat} {id : Int32} (ha : h[a]? = some (.inr (2, [.int 0, .int 0, .int 0, .int 0, .int 0, .int 0, .long 0, .int 0, .long 0, .null, .null]))) : z_K yX1_init cX1_init 6 none 1 2 0 [.ref a, .int id, .int (nI len), .int (nI ses), .int (nI lev), .int (z_b false)] h (fun v h' => v = none ∧ h' = (h ++ [(.inl (4, 0, .inr (.inr (.inr (.inr (fun _ => none))))) : z_E)] ++ [(.inl (0, 0, .inl (fun _ => 0)) : z_E)]).set a (I_o id ses lev false len true 0 false 0 h.length (h.length + 1))) := by
  refine z_met vI_X1_init (Nat.le_of_ble_eq_true rfl) (fun G X F hr hnm => ?_)
  refine z_aload_n F dX1_init_0 rfl rfl ?_
  refine z_objInit F vM_X1_3 vO_i vO_c dX1_init_1 (Nat.le_of_ble_eq_true rfl) (Nat.le_of_ble_eq_true rfl) ?_
  refine z_aload_n F dX1_init_4 rfl rfl ?_
  refine z_iconst (v := 1) F dX1_init_5 rfl ?_
  refine z_putf F vF_X1_9 vT_X1 vD_X1_5 dX1_init_6 ha (Nat.le_of_ble_eq_true rfl) rfl rfl (fun g6 => ?_)
  refine z_aload_n F dX1_init_9 rfl rfl ?_
  refine z_lconst (v := 0) F dX1_init_10 rfl ?_
  refine z_putf F vF_X1_15 vT_X1 vD_X1_6 dX1_init_11 g6 (Nat.le_of_ble_eq_true rfl) rfl rfl (fun g11 => ?_)
  refine z_aload_n F dX1_init_14 rfl rfl ?_
  refine z_iconst (v := 0) F dX1_init_15 rfl ?_
  refine z_putf F vF_X1_19 vT_X1 vD_X1_7 dX1_init_16 g11 (Nat.le_of_ble_eq_true rfl) rfl rfl (fun g16 => ?_)
  refine z_aload_n F dX1_init_19 rfl rfl ?_
  refine z_lconst (v := 0) F dX1_init_20 rfl ?_
  refine z_putf F vF_X1_22 vT_X1 vD_X1_8 dX1_init_21 g16 (Nat.le_of_ble_eq_true rfl) rfl rfl (fun g21 => ?_)
  refine z_aload_n F dX1_init_24 rfl rfl ?_
  refine z_iload_n F dX1_init_25 rfl ?_
  refine z_putF F vF_X1_25 vT_X1 vD_X1_0 ⟨_, rfl, rfl⟩ hnm dX1_init_26 g21 (Nat.le_of_ble_eq_true rfl) rfl rfl (fun g26 => ?_)
  refine z_aload_n F dX1_init_29 rfl rfl ?_
  refine z_iload_n F dX1_init_30 rfl ?_
  refine z_putf F vF_X1_29 vT_X1 vD_X1_4 dX1_init_31 g26 (Nat.le_of_ble_eq_true rfl) rfl rfl (fun g31 => ?_)
  refine z_aload_n F dX1_init_34 rfl rfl ?_
  refine z_iload_n F dX1_init_35 rfl ?_
  refine z_putF F vF_X1_32 vT_X1 vD_X1_1 ⟨_, rfl, rfl⟩ hnm dX1_init_36 g31 (Nat.le_of_ble_eq_true rfl) rfl rfl (fun g36 => ?_)
  refine z_aload_n F dX1_init_39 rfl rfl ?_
  refine z_iload F dX1_init_40 rfl ?_
  refine z_putF F vF_X1_35 vT_X1 vD_X1_2 ⟨_, rfl, rfl⟩ hnm dX1_init_42 g36 (Nat.le_of_ble_eq_true rfl) rfl rfl (fun g42 => ?_)
  refine z_aload_n F dX1_init_45 rfl rfl ?_
  refine z_iload F dX1_init_46 rfl ?_
  refine z_putF F vF_X1_38 vT_X1 vD_X1_3 ⟨_, rfl, rfl⟩ hnm dX1_init_48 g42 (Nat.le_of_ble_eq_true rfl) (z_bnar false) (z_bfit false) (fun g48 => ?_)
  refine z_aload_n F dX1_init_51 rfl rfl ?_
  refine z_iload F dX1_init_52 rfl ?_
  refine z_if_eq (tgt := 62) F dX1_init_54 (by decide) (fun c54 => ?_) (fun c54 => absurd rfl c54)
  refine z_iconst (v := 0) F dX1_init_62 rfl ?_
  simp only [List.set_set] at g48 ⊢
  refine z_newq (N := 0) (t := 4) F vC_X1_10 F.nws.1 rfl (by decide) rfl (Nat.le_of_ble_eq_true rfl) dX1_init_63 (Nat.le_of_ble_eq_true rfl) (Nat.le_of_ble_eq_true rfl) ?_
  refine z_putF F vF_X1_41 vT_X1 vD_X1_9 ⟨_, rfl, rfl⟩ hnm dX1_init_66 (z_pa g48) (Nat.le_of_ble_eq_true rfl) rfl rfl (fun g66 => ?_)
  refine z_aload_n F dX1_init_69 rfl rfl ?_
  refine z_iload F dX1_init_70 rfl ?_
  refine z_if_eq (tgt := 80) F dX1_init_72 (by decide) (fun c72 => ?_) (fun c72 => absurd rfl c72)
  refine z_iconst (v := 0) F dX1_init_80 rfl ?_
  refine z_newa (atype := .int) (N := 0) (a0 := (0, (.inl (fun _ => 0)))) (t := 0) F vA_int rfl (fun _ _ => rfl) (by decide) rfl (Nat.le_of_ble_eq_true rfl) dX1_init_81 (Nat.le_of_ble_eq_true rfl) (Nat.le_of_ble_eq_true rfl) ?_
  refine z_putF F vF_X1_45 vT_X1 vD_X1_10 ⟨_, rfl, rfl⟩ hnm dX1_init_83 (z_pa g66) (Nat.le_of_ble_eq_true rfl) rfl rfl (fun g83 => ?_)
  exact z_vret F hr dX1_init_86 (Nat.le_of_ble_eq_true rfl) (Nat.le_of_ble_eq_true rfl) (⟨rfl, by simp only [List.set_set, z_spush ha, z_spush (z_pa ha), List.length_set, List.length_append]; rfl⟩)

set_option maxRecDepth 100000 in
set_option maxHeartbeats 1000000 in
theorem c_X1_init_y {h : z_H} {a len ses lev : Nat} {id : Int32} (ha : h[a]? = some (.inr (2, [.int 0, .int 0, .int 0, .int 0, .int 0, .int 0, .long 0, .int 0, .long 0, .null, .null]))) : z_K yX1_init cX1_init 6 none 1 2 16 [.ref a, .int id, .int (nI len), .int (nI ses), .int (nI lev), .int (z_b true)] h (fun v h' => v = none ∧ h' = (h ++ [(.inl (4, 8, .inr (.inr (.inr (.inr (fun _ => none))))) : z_E)] ++ [(.inl (0, 8, .inl (fun _ => 0)) : z_E)]).set a (I_o id ses lev true len true 0 false 0 h.length (h.length + 1))) := by
  refine z_met vI_X1_init (Nat.le_of_ble_eq_true rfl) (fun G X F hr hnm => ?_)
  refine z_aload_n F dX1_init_0 rfl rfl ?_
  refine z_objInit F vM_X1_3 vO_i vO_c dX1_init_1 (Nat.le_of_ble_eq_true rfl) (Nat.le_of_ble_eq_true rfl) ?_
  refine z_aload_n F dX1_init_4 rfl rfl ?_
  refine z_iconst (v := 1) F dX1_init_5 rfl ?_
  refine z_putf F vF_X1_9 vT_X1 vD_X1_5 dX1_init_6 ha (Nat.le_of_ble_eq_true rfl) rfl rfl (fun g6 => ?_)
  refine z_aload_n F dX1_init_9 rfl rfl ?_
  refine z_lconst (v := 0) F dX1_init_10 rfl ?_
  refine z_putf F vF_X1_15 vT_X1 vD_X1_6 dX1_init_11 g6 (Nat.le_of_ble_eq_true rfl) rfl rfl (fun g11 => ?_)
  refine z_aload_n F dX1_init_14 rfl rfl ?_
  refine z_iconst (v := 0) F dX1_init_15 rfl ?_
  refine z_putf F vF_X1_19 vT_X1 vD_X1_7 dX1_init_16 g11 (Nat.le_of_ble_eq_true rfl) rfl rfl (fun g16 => ?_)
  refine z_aload_n F dX1_init_19 rfl rfl ?_
  refine z_lconst (v := 0) F dX1_init_20 rfl ?_
  refine z_putf F vF_X1_22 vT_X1 vD_X1_8 dX1_init_21 g16 (Nat.le_of_ble_eq_true rfl) rfl rfl (fun g21 => ?_)
  refine z_aload_n F dX1_init_24 rfl rfl ?_
  refine z_iload_n F dX1_init_25 rfl ?_
  refine z_putF F vF_X1_25 vT_X1 vD_X1_0 ⟨_, rfl, rfl⟩ hnm dX1_init_26 g21 (Nat.le_of_ble_eq_true rfl) rfl rfl (fun g26 => ?_)
  refine z_aload_n F dX1_init_29 rfl rfl ?_
  refine z_iload_n F dX1_init_30 rfl ?_
  refine z_putf F vF_X1_29 vT_X1 vD_X1_4 dX1_init_31 g26 (Nat.le_of_ble_eq_true rfl) rfl rfl (fun g31 => ?_)
  refine z_aload_n F dX1_init_34 rfl rfl ?_
  refine z_iload_n F dX1_init_35 rfl ?_
  refine z_putF F vF_X1_32 vT_X1 vD_X1_1 ⟨_, rfl, rfl⟩ hnm dX1_init_36 g31 (Nat.le_of_ble_eq_true rfl) rfl rfl (fun g36 => ?_)
  refine z_aload_n F dX1_init_39 rfl rfl ?_
  refine z_iload F dX1_init_40 rfl ?_
  refine z_putF F vF_X1_35 vT_X1 vD_X1_2 ⟨_, rfl, rfl⟩ hnm dX1_init_42 g36 (Nat.le_of_ble_eq_true rfl) rfl rfl (fun g42 => ?_)
  refine z_aload_n F dX1_init_45 rfl rfl ?_
  refine z_iload F dX1_init_46 rfl ?_
  refine z_putF F vF_X1_38 vT_X1 vD_X1_3 ⟨_, rfl, rfl⟩ hnm dX1_init_48 g42 (Nat.le_of_ble_eq_true rfl) (z_bnar true) (z_bfit true) (fun g48 => ?_)
  refine z_aload_n F dX1_init_51 rfl rfl ?_
  refine z_iload F dX1_init_52 rfl ?_
  refine z_if_eq (tgt := 62) F dX1_init_54 (by decide) (fun c54 => absurd c54 (by decide)) (fun c54 => ?_)
  refine z_bipush (v := 8) F dX1_init_57 rfl ?_
  refine z_goto (tgt := 63) F dX1_init_59 (by decide) ?_
  simp only [List.set_set] at g48 ⊢
  refine z_newq (N := 8) (t := 4) F vC_X1_10 F.nws.1 rfl (by decide) rfl (Nat.le_of_ble_eq_true rfl) dX1_init_63 (Nat.le_of_ble_eq_true rfl) (Nat.le_of_ble_eq_true rfl) ?_
  refine z_putF F vF_X1_41 vT_X1 vD_X1_9 ⟨_, rfl, rfl⟩ hnm dX1_init_66 (z_pa g48) (Nat.le_of_ble_eq_true rfl) rfl rfl (fun g66 => ?_)
  refine z_aload_n F dX1_init_69 rfl rfl ?_
  refine z_iload F dX1_init_70 rfl ?_
  refine z_if_eq (tgt := 80) F dX1_init_72 (by decide) (fun c72 => absurd c72 (by decide)) (fun c72 => ?_)
  refine z_bipush (v := 8) F dX1_init_75 rfl ?_
  refine z_goto (tgt := 81) F dX1_init_77 (by decide) ?_
  refine z_newa (atype := .int) (N := 8) (a0 := (8, (.inl (fun _ => 0)))) (t := 0) F vA_int rfl (fun _ _ => rfl) (by decide) rfl (Nat.le_of_ble_eq_true rfl) dX1_init_81 (Nat.le_of_ble_eq_true rfl) (Nat.le_of_ble_eq_true rfl) ?_
  refine z_putF F vF_X1_45 vT_X1 vD_X1_10 ⟨_, rfl, rfl⟩ hnm dX1_init_83 (z_pa g66) (Nat.le_of_ble_eq_true rfl) rfl rfl (fun g83 => ?_)
  exact z_vret F hr dX1_init_86 (Nat.le_of_ble_eq_true rfl) (Nat.le_of_ble_eq_true rfl) (⟨rfl, by simp only [List.set_set, z_spush ha, z_spush (z_pa ha), List.length_set, List.length_append]; rfl⟩)

set_option maxRecDepth 100000 in
set_option maxHeartbeats 1000000 in
theorem c_X1_release {h : z_H} {i ses lev len src plc : Nat} {id : Int32} {tog mbw hd : Bool} {own hv : Int64} (hi : h[i]? = some (I_o id ses lev tog len mbw own hd hv src plc)) : z_K yX1_release cX1_release 1 none 0 0 0 [.ref i] h (fun v h' => v = none ∧ h' = h.set i (I_o id ses lev tog len mbw own false hv src plc)) := by
  refine z_met vI_X1_release (Nat.le_of_ble_eq_true rfl) (fun G X F hr hnm => ?_)
  refine z_aload_n F dX1_release_0 rfl rfl ?_
  refine z_iconst (v := 0) F dX1_release_1 rfl ?_
  refine z_putf F vF_X1_19 vT_X1 vD_X1_7 dX1_release_2 hi (Nat.le_of_ble_eq_true rfl) rfl rfl (fun g2 => ?_)
  exact z_vret F hr dX1_release_5 (Nat.le_of_ble_eq_true rfl) (Nat.le_of_ble_eq_true rfl) (⟨rfl, rfl⟩)

set_option maxRecDepth 100000 in
set_option maxHeartbeats 1000000 in
theorem c_X1_hold {h : z_H} {i ses lev len src plc : Nat} {id : Int32} {tog mbw hd : Bool} {own hv : Int64} (hi : h[i]? = some (I_o id ses lev tog len mbw own hd hv src plc)) (x : Int64) : z_K yX1_hold cX1_hold 3 none 0 0 0 [.ref i, .long x] h (fun v h' => v = none ∧ h' = h.set i (I_o id ses lev tog len mbw own true x src plc)) := by
  refine z_met vI_X1_hold (Nat.le_of_ble_eq_true rfl) (fun G X F hr hnm => ?_)
  refine z_aload_n F dX1_hold_0 rfl rfl ?_
  refine z_iconst (v := 1) F dX1_hold_1 rfl ?_
  refine z_putf F vF_X1_19 vT_X1 vD_X1_7 dX1_hold_2 hi (Nat.le_of_ble_eq_true rfl) rfl rfl (fun g2 => ?_)
  refine z_aload_n F dX1_hold_5 rfl rfl ?_
  refine z_lload_n F dX1_hold_6 rfl ?_
  refine z_putf F vF_X1_22 vT_X1 vD_X1_8 dX1_hold_7 g2 (Nat.le_of_ble_eq_true rfl) rfl rfl (fun g7 => ?_)
  exact z_vret F hr dX1_hold_10 (Nat.le_of_ble_eq_true rfl) (Nat.le_of_ble_eq_true rfl) (⟨rfl, by simp only [List.set_set]; rfl⟩)

set_option maxRecDepth 100000 in
set_option maxHeartbeats 1000000 in
theorem c_X1_ordinaryOctetAt {h : z_H} {i ses lev len src plc : Nat} {id : Int32} {tog mbw hd : Bool} {own hv : Int64} (hi : h[i]? = some (I_o id ses lev tog len mbw own hd hv src plc)) {p : Nat} (hp : p < len) (hl : len ≤ 8) : z_K yX1_ordinaryOctetAt cX1_ordinaryOctetAt 4 (some .int) 0 0 0 [.ref i, .int (nI p)] h (fun v h' => v = some (.int (nI (octV (if hd then hv else own) (8 * (len - 1 - p))))) ∧ h' = h) := by
  refine z_met vI_X1_ordinaryOctetAt (Nat.le_of_ble_eq_true rfl) (fun G X F hr hnm => ?_)
  refine z_aload_n F dX1_ordinaryOctetAt_0 rfl rfl ?_
  refine z_getf F vF_X1_19 dX1_ordinaryOctetAt_1 hi rfl ?_
  refine z_if_eq (tgt := 14) F dX1_ordinaryOctetAt_4 (by decide) (fun c4 => ?_) (fun c4 => ?_)
  · have hz : (if hd then hv else own) = own := by rw [z_b0.mp c4]; rfl
    refine z_aload_n F dX1_ordinaryOctetAt_14 rfl rfl ?_
    refine z_getf F vF_X1_15 dX1_ordinaryOctetAt_15 hi rfl ?_
    refine z_lstore_n F dX1_ordinaryOctetAt_18 (Nat.le_of_ble_eq_true rfl) ?_
    refine z_lload_n F dX1_ordinaryOctetAt_19 rfl ?_
    refine z_bipush (v := 8) F dX1_ordinaryOctetAt_20 rfl ?_
    refine z_aload_n F dX1_ordinaryOctetAt_22 rfl rfl ?_
    refine z_getf F vF_X1_29 dX1_ordinaryOctetAt_23 hi rfl ?_
    refine z_iconst (v := 1) F dX1_ordinaryOctetAt_26 rfl ?_
    refine z_isub F dX1_ordinaryOctetAt_27 ?_
    refine z_iload_n F dX1_ordinaryOctetAt_28 rfl ?_
    refine z_isub F dX1_ordinaryOctetAt_29 ?_
    refine z_imul F dX1_ordinaryOctetAt_30 ?_
    rw [z_sh hp]
    refine z_lushr F dX1_ordinaryOctetAt_31 ?_
    refine z_l2i F dX1_ordinaryOctetAt_32 ?_
    refine z_sipush (v := 255) F dX1_ordinaryOctetAt_33 rfl ?_
    refine z_iand F dX1_ordinaryOctetAt_36 ?_
    rw [z_ushr8 _ (by omega)]
    exact z_iret F hr dX1_ordinaryOctetAt_37 rfl (Nat.le_of_ble_eq_true rfl) (Nat.le_of_ble_eq_true rfl) (⟨by rw [hz], rfl⟩)
  · have hz : (if hd then hv else own) = hv := by cases hd <;> first | rfl | exact absurd rfl c4
    refine z_aload_n F dX1_ordinaryOctetAt_7 rfl rfl ?_
    refine z_getf F vF_X1_22 dX1_ordinaryOctetAt_8 hi rfl ?_
    refine z_goto (tgt := 18) F dX1_ordinaryOctetAt_11 (by decide) ?_
    refine z_lstore_n F dX1_ordinaryOctetAt_18 (Nat.le_of_ble_eq_true rfl) ?_
    refine z_lload_n F dX1_ordinaryOctetAt_19 rfl ?_
    refine z_bipush (v := 8) F dX1_ordinaryOctetAt_20 rfl ?_
    refine z_aload_n F dX1_ordinaryOctetAt_22 rfl rfl ?_
    refine z_getf F vF_X1_29 dX1_ordinaryOctetAt_23 hi rfl ?_
    refine z_iconst (v := 1) F dX1_ordinaryOctetAt_26 rfl ?_
    refine z_isub F dX1_ordinaryOctetAt_27 ?_
    refine z_iload_n F dX1_ordinaryOctetAt_28 rfl ?_
    refine z_isub F dX1_ordinaryOctetAt_29 ?_
    refine z_imul F dX1_ordinaryOctetAt_30 ?_
    rw [z_sh hp]
    refine z_lushr F dX1_ordinaryOctetAt_31 ?_
    refine z_l2i F dX1_ordinaryOctetAt_32 ?_
    refine z_sipush (v := 255) F dX1_ordinaryOctetAt_33 rfl ?_
    refine z_iand F dX1_ordinaryOctetAt_36 ?_
    rw [z_ushr8 _ (by omega)]
    exact z_iret F hr dX1_ordinaryOctetAt_37 rfl (Nat.le_of_ble_eq_true rfl) (Nat.le_of_ble_eq_true rfl) (⟨by rw [hz], rfl⟩)

set_option maxRecDepth 100000 in
set_option maxHeartbeats 1000000 in
theorem c_X1_octetAt_n {h : z_H} {i ses lev len src plc : Nat} {id : Int32} {mbw hd : Bool} {own hv : Int64} (hi : h[i]? = some (I_o id ses lev false len mbw own hd hv src plc)) {p : Nat} (hp : p < len) (hl : len ≤ 8) : z_K yX1_octetAt cX1_octetAt 3 (some .int) 1 0 0 [.ref i, .int (nI p)] h (fun v h' => v = some (.int (nI (octV (if hd then hv else own) (8 * (len - 1 - p))))) ∧ h' = h) := by
  refine z_met vI_X1_octetAt (Nat.le_of_ble_eq_true rfl) (fun G X F hr hnm => ?_)
  refine z_aload_n F dX1_octetAt_0 rfl rfl ?_
  refine z_getf F vF_X1_38 dX1_octetAt_1 hi rfl ?_
  refine z_if_ne (tgt := 13) F dX1_octetAt_4 (by decide) (fun c4 => absurd rfl c4) (fun c4 => ?_)
  refine z_aload_n F dX1_octetAt_7 rfl rfl ?_
  refine z_iload_n F dX1_octetAt_8 rfl ?_
  refine z_callV F z_nwOK wL_good (c_X1_ordinaryOctetAt hi hp hl) hi rfl vI_X1_ordinaryOctetAt vM_X1_49 vV_X1_ordinaryOctetAt vL_X1_ordinaryOctetAt rfl dX1_octetAt_9 rfl rfl (Nat.le_of_ble_eq_true rfl) ⟨(Nat.le_of_ble_eq_true rfl), (Nat.le_of_ble_eq_true rfl), (Nat.le_of_ble_eq_true rfl), (Nat.le_of_ble_eq_true rfl)⟩ (fun v h1 hq => ?_)
  obtain ⟨rfl, rfl⟩ := hq
  exact z_iret F hr dX1_octetAt_12 rfl (Nat.le_of_ble_eq_true rfl) (Nat.le_of_ble_eq_true rfl) (⟨rfl, rfl⟩)

set_option maxRecDepth 100000 in
set_option maxHeartbeats 1000000 in
theorem c_X1_octetAt_y {h : z_H} {i ses lev len src plc : Nat} {id : Int32} {mbw hd : Bool} {own hv : Int64} (hi : h[i]? = some (I_o id ses lev true len mbw own hd hv src plc)) {p p2 : Nat} {sf : Nat → Option Nat} {pf : Nat → Int32} (hsf : h[src]? = some (.inl (4, 8, .inr (.inr (.inr (.inr sf)))))) (hpf : h[plc]? = some (.inl (0, 8, .inl pf))) {s ses2 lev2 len2 src2 plc2 : Nat} {id2 : Int32} {tog2 mbw2 hd2 : Bool} {own2 hv2 : Int64} (hs : h[s]? = some (I_o id2 ses2 lev2 tog2 len2 mbw2 own2 hd2 hv2 src2 plc2)) (hp : p < 8) (hsp : sf p = some s) (hpp : pf p = nI p2) (hp2 : p2 < len2) (hl2 : len2 ≤ 8) : z_K yX1_octetAt cX1_octetAt 3 (some .int) 1 0 0 [.ref i, .int (nI p)] h (fun v h' => v = some (.int (nI (octV (if hd2 then hv2 else own2) (8 * (len2 - 1 - p2))))) ∧ h' = h) := by
  refine z_met vI_X1_octetAt (Nat.le_of_ble_eq_true rfl) (fun G X F hr hnm => ?_)
  refine z_aload_n F dX1_octetAt_0 rfl rfl ?_
  refine z_getf F vF_X1_38 dX1_octetAt_1 hi rfl ?_
  refine z_if_ne (tgt := 13) F dX1_octetAt_4 (by decide) (fun c4 => ?_) (fun c4 => absurd c4 (by decide))
  refine z_iload_n F dX1_octetAt_13 rfl ?_
  refine z_if_lt (tgt := 35) F dX1_octetAt_14 (by decide) (fun c14 => absurd c14 (nI_pos (by omega))) (fun c14 => ?_)
  refine z_iload_n F dX1_octetAt_17 rfl ?_
  refine z_aload_n F dX1_octetAt_18 rfl rfl ?_
  refine z_getf F vF_X1_41 dX1_octetAt_19 hi rfl ?_
  refine z_alen (v := nI 8) F dX1_octetAt_22 hsf rfl rfl ?_
  refine z_icmp_ge (tgt := 35) F dX1_octetAt_23 (by decide) (fun c23 => absurd c23 (nI_ge (by omega) (by decide))) (fun c23 => ?_)
  refine z_iload_n F dX1_octetAt_26 rfl ?_
  refine z_aload_n F dX1_octetAt_27 rfl rfl ?_
  refine z_getf F vF_X1_45 dX1_octetAt_28 hi rfl ?_
  refine z_alen (v := nI 8) F dX1_octetAt_31 hpf rfl rfl ?_
  refine z_icmp_lt (tgt := 37) F dX1_octetAt_32 (by decide) (fun c32 => ?_) (fun c32 => absurd (nI_lt (by omega) (by decide)) c32)
  refine z_aload_n F dX1_octetAt_37 rfl rfl ?_
  refine z_getf F vF_X1_41 dX1_octetAt_38 hi rfl ?_
  refine z_iload_n F dX1_octetAt_41 rfl ?_
  refine z_aald F dX1_octetAt_42 hsf rfl rfl (show p < 8 by omega) (Nat.le_of_ble_eq_true rfl) ?_
  rw [hsp]
  refine z_astore_n F dX1_octetAt_43 rfl (Nat.le_of_ble_eq_true rfl) ?_
  refine z_aload_n F dX1_octetAt_44 rfl rfl ?_
  refine z_ifnonnull (tgt := 52) F dX1_octetAt_45 (by decide) rfl (fun c45 => ?_) (fun c45 => absurd c45 (by intro e; cases e))
  refine z_aload_n F dX1_octetAt_52 rfl rfl ?_
  refine z_aload_n F dX1_octetAt_53 rfl rfl ?_
  refine z_getf F vF_X1_45 dX1_octetAt_54 hi rfl ?_
  refine z_iload_n F dX1_octetAt_57 rfl ?_
  refine z_iald F dX1_octetAt_58 hpf rfl rfl (show p < 8 by omega) (Nat.le_of_ble_eq_true rfl) ?_
  rw [hpp]
  refine z_callV F z_nwOK wL_good (c_X1_ordinaryOctetAt hs hp2 hl2) hs rfl vI_X1_ordinaryOctetAt vM_X1_49 vV_X1_ordinaryOctetAt vL_X1_ordinaryOctetAt rfl dX1_octetAt_59 rfl rfl (Nat.le_of_ble_eq_true rfl) ⟨(Nat.le_of_ble_eq_true rfl), (Nat.le_of_ble_eq_true rfl), (Nat.le_of_ble_eq_true rfl), (Nat.le_of_ble_eq_true rfl)⟩ (fun v h1 hq => ?_)
  obtain ⟨rfl, rfl⟩ := hq
  exact z_iret F hr dX1_octetAt_62 rfl (Nat.le_of_ble_eq_true rfl) (Nat.le_of_ble_eq_true rfl) (⟨rfl, rfl⟩)

set_option maxRecDepth 100000 in
set_option maxHeartbeats 1000000 in
theorem l_X1_number {h : z_H} {i ses lev len src plc : Nat} {id : Int32} {tog mbw hd : Bool} {own hv : Int64} (hi : h[i]? = some (I_o id ses lev tog len mbw own hd hv src plc)) (g : Nat → Nat) (hO : ∀ p, p < len → z_K yX1_octetAt cX1_octetAt 3 (some .int) 1 0 0 [.ref i, .int (nI p)] h (fun v h' => v = some (.int (nI (g p))) ∧ h' = h)) (hl : len ≤ 8) {G : z_G} {X : z_X} {Q' : Option Value → z_H → Prop} (F : z_F vwCl z_ats z_nw wsL_law G RX1 cX1_number 4 (z_rm 2 0 0) X) (hr : X.2.2.2.2.2.2.2.2.1.sig.returnType = some .long) (hq' : Q' (some (.long (numL (fun j => nI (g j)) len))) h) :
    ∀ (m j : Nat), j + m = len → z_V vwCl G 4 X (z_end vwCl z_ats z_nw G X 0 0 Q') 0 0 4 [(0, .ref i), (1, .long (numL (fun j => nI (g j)) j)), (3, .int (nI j))] [] h := by
  intro m
  induction m with
  | zero =>
    intro j hj
    obtain rfl : j = len := by omega
    refine z_iload_n F dX1_number_4 rfl ?_
    refine z_aload_n F dX1_number_5 rfl rfl ?_
    refine z_getf F vF_X1_29 dX1_number_6 hi rfl ?_
    refine z_icmp_ge (tgt := 30) F dX1_number_9 (by decide) (fun c9 => ?_) (fun c9 => absurd (nI_le (Nat.le_refl j) (by omega)) c9)
    refine z_lload_n F dX1_number_30 rfl ?_
    exact z_lret F hr dX1_number_31 (Nat.le_of_ble_eq_true rfl) (Nat.le_of_ble_eq_true rfl) (hq')
  | succ m ih =>
    intro j hj
    refine z_iload_n F dX1_number_4 rfl ?_
    refine z_aload_n F dX1_number_5 rfl rfl ?_
    refine z_getf F vF_X1_29 dX1_number_6 hi rfl ?_
    refine z_icmp_ge (tgt := 30) F dX1_number_9 (by decide) (fun c9 => absurd c9 (nI_ge (show j < len by omega) (by omega))) (fun c9 => ?_)
    refine z_lload_n F dX1_number_12 rfl ?_
    refine z_bipush (v := 8) F dX1_number_13 rfl ?_
    refine z_lshl F dX1_number_15 ?_
    refine z_aload_n F dX1_number_16 rfl rfl ?_
    refine z_iload_n F dX1_number_17 rfl ?_
    refine z_callV F z_nwOK wL_good (hO j (by omega)) hi rfl vI_X1_octetAt vM_X1_53 vV_X1_octetAt vL_X1_octetAt rfl dX1_number_18 rfl rfl (Nat.le_of_ble_eq_true rfl) ⟨(Nat.le_of_ble_eq_true rfl), (Nat.le_of_ble_eq_true rfl), (Nat.le_of_ble_eq_true rfl), (Nat.le_of_ble_eq_true rfl)⟩ (fun v h1 hq => ?_)
    obtain ⟨rfl, rfl⟩ := hq
    refine z_i2l F dX1_number_21 ?_
    refine z_lor F dX1_number_22 ?_
    refine z_lstore_n F dX1_number_23 (Nat.le_of_ble_eq_true rfl) ?_
    refine z_iinc (w := 1) F dX1_number_24 rfl rfl (Nat.le_of_ble_eq_true rfl) ?_
    rw [nI_1]
    refine z_goto (tgt := 4) F dX1_number_27 (by decide) ?_
    exact ih (j + 1) (by omega)

set_option maxRecDepth 100000 in
set_option maxHeartbeats 1000000 in
theorem c_X1_number {h : z_H} {i ses lev len src plc : Nat} {id : Int32} {tog mbw hd : Bool} {own hv : Int64} (hi : h[i]? = some (I_o id ses lev tog len mbw own hd hv src plc)) (g : Nat → Nat) (hO : ∀ p, p < len → z_K yX1_octetAt cX1_octetAt 3 (some .int) 1 0 0 [.ref i, .int (nI p)] h (fun v h' => v = some (.int (nI (g p))) ∧ h' = h)) (hl : len ≤ 8) : z_K yX1_number cX1_number 4 (some .long) 2 0 0 [.ref i] h (fun v h' => v = some (.long (numL (fun j => nI (g j)) len)) ∧ h' = h) := by
  refine z_met vI_X1_number (Nat.le_of_ble_eq_true rfl) (fun G X F hr hnm => ?_)
  refine z_lconst (v := 0) F dX1_number_0 rfl ?_
  refine z_lstore_n F dX1_number_1 (Nat.le_of_ble_eq_true rfl) ?_
  refine z_iconst (v := 0) F dX1_number_2 rfl ?_
  refine z_istore_n F dX1_number_3 (Nat.le_of_ble_eq_true rfl) ?_
  exact l_X1_number hi g hO hl F hr ⟨rfl, rfl⟩ len 0 (by omega)

def apS (sf : Nat → Option Nat) (len s : Nat) : Nat → Nat → Option Nat
  | 0 => sf
  | j + 1 => va_up (apS sf len s j) (len + j) (some s)
def apP (pf : Nat → Int32) (len : Nat) : Nat → Nat → Int32
  | 0 => pf
  | j + 1 => upd (apP pf len j) (len + j) (nI j)
def z_set3 (h : z_H) (s p i : Nat) (a b c : z_E) : z_H := ((h.set s a).set p b).set i c
theorem z_set3_again {h : z_H} {s p i : Nat} {a b c a' b' c' : z_E} (h1 : s ≠ p) (h2 : s ≠ i) (h3 : p ≠ i) : (((z_set3 h s p i a b c).set s a').set p b').set i c' = z_set3 h s p i a' b' c' := by
  unfold z_set3
  apply List.ext_getElem?
  intro k
  simp only [List.getElem?_set, List.length_set]
  by_cases e1 : i = k
  · simp [e1]
  · by_cases e2 : p = k
    · simp [e1, e2]
    · by_cases e3 : s = k
      · simp [e1, e2, e3]
      · simp [e1, e2, e3]
theorem z_set3_i {h : z_H} {s p i : Nat} {a b c e : z_E} (hi : h[i]? = some e) : (z_set3 h s p i a b c)[i]? = some c := by
  unfold z_set3
  refine List.getElem?_set_self ?_
  rw [List.length_set, List.length_set]
  exact (List.getElem?_eq_some_iff.mp hi).1
theorem z_set3_p {h : z_H} {s p i : Nat} {a b c e : z_E} (hp : h[p]? = some e) (h3 : p ≠ i) : (z_set3 h s p i a b c)[p]? = some b := by
  unfold z_set3
  rw [z_sn (Ne.symm h3)]
  refine List.getElem?_set_self ?_
  rw [List.length_set]
  exact (List.getElem?_eq_some_iff.mp hp).1
theorem z_set3_s {h : z_H} {s p i : Nat} {a b c e : z_E} (hs : h[s]? = some e) (h1 : s ≠ p) (h2 : s ≠ i) : (z_set3 h s p i a b c)[s]? = some a := by
  unfold z_set3
  rw [z_sn (Ne.symm h2), z_sn (Ne.symm h1)]
  exact z_ss hs
theorem z_set3_n {h : z_H} {s p i k : Nat} {a b c : z_E} (h1 : s ≠ k) (h2 : p ≠ k) (h3 : i ≠ k) : (z_set3 h s p i a b c)[k]? = h[k]? := by
  unfold z_set3
  rw [z_sn h3, z_sn h2, z_sn h1]

set_option maxRecDepth 100000 in
set_option maxHeartbeats 1000000 in
theorem l_X1_append {h : z_H} {i ses lev len src plc : Nat} {id : Int32} {mbw hd : Bool} {own hv : Int64} (hi : h[i]? = some (I_o id ses lev true len mbw own hd hv src plc)) {s k : Nat} {sf : Nat → Option Nat} {pf : Nat → Int32} {fs : List Value} (hsf : h[src]? = some (.inl (4, 8, .inr (.inr (.inr (.inr sf)))))) (hpf : h[plc]? = some (.inl (0, 8, .inl pf))) (hs : h[s]? = some (.inr (2, fs))) (hsp : src ≠ plc) (hsi : src ≠ i) (hpi : plc ≠ i) (hss : src ≠ s) (hps : plc ≠ s) (his : i ≠ s) (hk : len + k ≤ 8) {G : z_G} {X : z_X} (F : z_F vwCl z_ats z_nw wsL_law G RX1 cX1_append 4 (z_rm 0 0 0) X) (hr : X.2.2.2.2.2.2.2.2.1.sig.returnType = none) :
    ∀ (m j : Nat), j + m = k → z_V vwCl G 4 X (z_end vwCl z_ats z_nw G X 0 0 (fun v h' => v = none ∧ h' = (z_set3 h src plc i (.inl (4, 8, .inr (.inr (.inr (.inr (apS sf len s k)))))) (.inl (0, 8, .inl (apP pf len k))) (I_o id ses lev true (len + k) mbw own hd hv src plc)))) 0 0 2 [(0, .ref i), (1, .ref s), (2, .int (nI k)), (3, .int (nI j))] [] (z_set3 h src plc i (.inl (4, 8, .inr (.inr (.inr (.inr (apS sf len s j)))))) (.inl (0, 8, .inl (apP pf len j))) (I_o id ses lev true (len + j) mbw own hd hv src plc)) := by
  intro m
  induction m with
  | zero =>
    intro j hj
    obtain rfl : j = k := by omega
    refine z_iload_n F dX1_append_2 rfl ?_
    refine z_iload_n F dX1_append_3 rfl ?_
    refine z_icmp_ge (tgt := 74) F dX1_append_4 (by decide) (fun c4 => ?_) (fun c4 => absurd (nI_le (Nat.le_refl j) (by omega)) c4)
    exact z_vret F hr dX1_append_74 (Nat.le_of_ble_eq_true rfl) (Nat.le_of_ble_eq_true rfl) (⟨rfl, rfl⟩)
  | succ m ih =>
    intro j hj
    have g0 : (z_set3 h src plc i (.inl (4, 8, .inr (.inr (.inr (.inr (apS sf len s j)))))) (.inl (0, 8, .inl (apP pf len j))) (I_o id ses lev true (len + j) mbw own hd hv src plc))[i]? = some _ := z_set3_i hi
    have g1 : (z_set3 h src plc i (.inl (4, 8, .inr (.inr (.inr (.inr (apS sf len s j)))))) (.inl (0, 8, .inl (apP pf len j))) (I_o id ses lev true (len + j) mbw own hd hv src plc))[src]? = some _ := z_set3_s hsf hsp hsi
    have g2 : (z_set3 h src plc i (.inl (4, 8, .inr (.inr (.inr (.inr (apS sf len s j)))))) (.inl (0, 8, .inl (apP pf len j))) (I_o id ses lev true (len + j) mbw own hd hv src plc))[plc]? = some _ := z_set3_p hpf hpi
    have g3 : (z_set3 h src plc i (.inl (4, 8, .inr (.inr (.inr (.inr (apS sf len s j)))))) (.inl (0, 8, .inl (apP pf len j))) (I_o id ses lev true (len + j) mbw own hd hv src plc))[s]? = some (.inr (2, fs)) := by rw [z_set3_n hss hps his]; exact hs
    refine z_iload_n F dX1_append_2 rfl ?_
    refine z_iload_n F dX1_append_3 rfl ?_
    refine z_icmp_ge (tgt := 74) F dX1_append_4 (by decide) (fun c4 => absurd c4 (nI_ge (show j < k by omega) (by omega))) (fun c4 => ?_)
    refine z_aload_n F dX1_append_7 rfl rfl ?_
    refine z_getf F vF_X1_29 dX1_append_8 g0 rfl ?_
    refine z_if_lt (tgt := 68) F dX1_append_11 (by decide) (fun c11 => absurd c11 (nI_pos (by omega))) (fun c11 => ?_)
    refine z_aload_n F dX1_append_14 rfl rfl ?_
    refine z_getf F vF_X1_29 dX1_append_15 g0 rfl ?_
    refine z_aload_n F dX1_append_18 rfl rfl ?_
    refine z_getf F vF_X1_41 dX1_append_19 g0 rfl ?_
    refine z_alen (v := nI 8) F dX1_append_22 g1 rfl rfl ?_
    refine z_icmp_ge (tgt := 68) F dX1_append_23 (by decide) (fun c23 => absurd c23 (nI_ge (show len + j < 8 by omega) (by decide))) (fun c23 => ?_)
    refine z_aload_n F dX1_append_26 rfl rfl ?_
    refine z_getf F vF_X1_29 dX1_append_27 g0 rfl ?_
    refine z_aload_n F dX1_append_30 rfl rfl ?_
    refine z_getf F vF_X1_45 dX1_append_31 g0 rfl ?_
    refine z_alen (v := nI 8) F dX1_append_34 g2 rfl rfl ?_
    refine z_icmp_ge (tgt := 68) F dX1_append_35 (by decide) (fun c35 => absurd c35 (nI_ge (show len + j < 8 by omega) (by decide))) (fun c35 => ?_)
    refine z_aload_n F dX1_append_38 rfl rfl ?_
    refine z_getf F vF_X1_41 dX1_append_39 g0 rfl ?_
    refine z_aload_n F dX1_append_42 rfl rfl ?_
    refine z_getf F vF_X1_29 dX1_append_43 g0 rfl ?_
    refine z_aload_n F dX1_append_46 rfl rfl ?_
    refine z_aast F dX1_append_47 g1 g3 rfl rfl rfl (show len + j < 8 by omega) (Nat.le_of_ble_eq_true rfl) ?_
    have f0 := (z_sn (c := .inl (4, 8, .inr (.inr (.inr (.inr (va_up (apS sf len s j) (len + j) (some s))))))) hsi).trans g0
    have f2 := (z_sn (c := .inl (4, 8, .inr (.inr (.inr (.inr (va_up (apS sf len s j) (len + j) (some s))))))) hsp).trans g2
    refine z_aload_n F dX1_append_48 rfl rfl ?_
    refine z_getf F vF_X1_45 dX1_append_49 f0 rfl ?_
    refine z_aload_n F dX1_append_52 rfl rfl ?_
    refine z_getf F vF_X1_29 dX1_append_53 f0 rfl ?_
    refine z_iload_n F dX1_append_56 rfl ?_
    refine z_iast F dX1_append_57 f2 rfl rfl (show len + j < 8 by omega) (Nat.le_of_ble_eq_true rfl) ?_
    have e0 := (z_sn (c := .inl (0, 8, .inl (upd (apP pf len j) (len + j) (nI j)))) hpi).trans f0
    refine z_aload_n F dX1_append_58 rfl rfl ?_
    refine z_dup F dX1_append_59 rfl ?_
    refine z_getf F vF_X1_29 dX1_append_60 e0 rfl ?_
    refine z_iconst (v := 1) F dX1_append_63 rfl ?_
    refine z_iadd F dX1_append_64 ?_
    rw [nI_1]
    refine z_putf F vF_X1_29 vT_X1 vD_X1_4 dX1_append_65 e0 (Nat.le_of_ble_eq_true rfl) rfl rfl (fun g65 => ?_)
    refine z_iinc (w := 1) F dX1_append_68 rfl rfl (Nat.le_of_ble_eq_true rfl) ?_
    rw [nI_1]
    refine z_goto (tgt := 2) F dX1_append_71 (by decide) ?_
    rw [z_set3_again hsp hsi hpi]
    exact ih (j + 1) (by omega)

set_option maxRecDepth 100000 in
set_option maxHeartbeats 1000000 in
theorem c_X1_append {h : z_H} {i ses lev len src plc : Nat} {id : Int32} {mbw hd : Bool} {own hv : Int64} (hi : h[i]? = some (I_o id ses lev true len mbw own hd hv src plc)) {s k : Nat} {sf : Nat → Option Nat} {pf : Nat → Int32} {fs : List Value} (hsf : h[src]? = some (.inl (4, 8, .inr (.inr (.inr (.inr sf)))))) (hpf : h[plc]? = some (.inl (0, 8, .inl pf))) (hs : h[s]? = some (.inr (2, fs))) (hsp : src ≠ plc) (hsi : src ≠ i) (hpi : plc ≠ i) (hss : src ≠ s) (hps : plc ≠ s) (his : i ≠ s) (hk : len + k ≤ 8) : z_K yX1_append cX1_append 4 none 0 0 0 [.ref i, .ref s, .int (nI k)] h (fun v h' => v = none ∧ h' = (z_set3 h src plc i (.inl (4, 8, .inr (.inr (.inr (.inr (apS sf len s k)))))) (.inl (0, 8, .inl (apP pf len k))) (I_o id ses lev true (len + k) mbw own hd hv src plc))) := by
  refine z_met vI_X1_append (Nat.le_of_ble_eq_true rfl) (fun G X F hr hnm => ?_)
  refine z_iconst (v := 0) F dX1_append_0 rfl ?_
  refine z_istore_n F dX1_append_1 (Nat.le_of_ble_eq_true rfl) ?_
  have hl := l_X1_append hi hsf hpf hs hsp hsi hpi hss hps his hk F hr k 0 (by omega)
  have e0 : (z_set3 h src plc i (.inl (4, 8, .inr (.inr (.inr (.inr (apS sf len s 0)))))) (.inl (0, 8, .inl (apP pf len 0))) (I_o id ses lev true (len + 0) mbw own hd hv src plc)) = h := by
    show ((h.set src (.inl (4, 8, .inr (.inr (.inr (.inr sf)))))).set plc (.inl (0, 8, .inl pf))).set i (I_o id ses lev true len mbw own hd hv src plc) = h
    rw [z_sid hsf, z_sid hpf, z_sid hi]
  rw [e0] at hl
  exact hl
end
section
/-! THE STATE: numbers, truths, longs, by the reference's own fields; then its arrays; then the last code -/
abbrev z_S : Type := (Nat → Nat) × (Nat → Bool) × (Nat → Int64) × (Nat → Nat → Nat) × (Nat → Nat → Bool) × (Nat → Nat → Int64) × (Nat → Nat → Int32) × Int32
def sN (S : z_S) (j : Nat) : Nat := S.1 j
def sB (S : z_S) (j : Nat) : Bool := S.2.1 j
def sL (S : z_S) (j : Nat) : Int64 := S.2.2.1 j
def sAN (S : z_S) (j k : Nat) : Nat := S.2.2.2.1 j k
def sAB (S : z_S) (j k : Nat) : Bool := S.2.2.2.2.1 j k
def sAL (S : z_S) (j k : Nat) : Int64 := S.2.2.2.2.2.1 j k
def sAI (S : z_S) (j k : Nat) : Int32 := S.2.2.2.2.2.2.1 j k
def sF (S : z_S) : Int32 := S.2.2.2.2.2.2.2
def uN (S : z_S) (j v : Nat) : z_S := (va_up S.1 j v, S.2)
def uB (S : z_S) (j : Nat) (v : Bool) : z_S := (S.1, va_up S.2.1 j v, S.2.2)
def uL (S : z_S) (j : Nat) (v : Int64) : z_S := (S.1, S.2.1, va_up S.2.2.1 j v, S.2.2.2)
def uAN (S : z_S) (j : Nat) (f : Nat → Nat) : z_S := (S.1, S.2.1, S.2.2.1, va_up S.2.2.2.1 j f, S.2.2.2.2)
def uAB (S : z_S) (j : Nat) (f : Nat → Bool) : z_S := (S.1, S.2.1, S.2.2.1, S.2.2.2.1, va_up S.2.2.2.2.1 j f, S.2.2.2.2.2)
def uAL (S : z_S) (j : Nat) (f : Nat → Int64) : z_S := (S.1, S.2.1, S.2.2.1, S.2.2.2.1, S.2.2.2.2.1, va_up S.2.2.2.2.2.1 j f, S.2.2.2.2.2.2)
def uAI (S : z_S) (j : Nat) (f : Nat → Int32) : z_S := (S.1, S.2.1, S.2.2.1, S.2.2.2.1, S.2.2.2.2.1, S.2.2.2.2.2.1, va_up S.2.2.2.2.2.2.1 j f, S.2.2.2.2.2.2.2)
def uF (S : z_S) (v : Int32) : z_S := (S.1, S.2.1, S.2.2.1, S.2.2.2.1, S.2.2.2.2.1, S.2.2.2.2.2.1, S.2.2.2.2.2.2.1, v)
/-- the whole heap: 0 the script, 1 to 10 the class's own cells, 11 to 30 the reference's, 31 the law's row, then what calls make -/
def HP (c m : Nat → z_E) (d : z_H) : z_H := [c 0, c 1, c 2, c 3, c 4, c 5, c 6, c 7, c 8, c 9, c 10, m 11, m 12, m 13, m 14, m 15, m 16, m 17, m 18, m 19, m 20, m 21, m 22, m 23, m 24, m 25, m 26, m 27, m 28, m 29, m 30, m 31] ++ d
def mO (S : z_S) : List Value := [.int (nI (sN S 0)), .int (nI (sN S 1)), .int (nI (sN S 2)), .long (sL S 3), .long (sL S 4), .int (z_b (sB S 5)), .int (z_b (sB S 6)), .int (nI (sN S 7)), .int (nI (sN S 8)), .ref 12, .ref 13, .ref 14, .ref 15, .ref 16, .ref 17, .ref 18, .ref 19, .ref 20, .ref 21, .ref 22, .int (nI (sN S 20)), .ref 23, .ref 24, .ref 25, .ref 26, .ref 27, .int (z_b (sB S 26)), .int (nI (sN S 27)), .int (nI (sN S 28)), .int (nI (sN S 29)), .int (nI (sN S 30)), .int (z_b (sB S 31)), .int (nI (sN S 32)), .int (z_b (sB S 33)), .int (z_b (sB S 34)), .int (nI (sN S 35)), .ref 28, .int (z_b (sB S 37)), .int (nI (sN S 38)), .ref 29, .int (nI (sN S 40)), .ref 30, .int (sF S)]
/-- the reference's cells -/
def mfun (S : z_S) (o : Nat → Int64) (k : Nat) : z_E := match k with
  | 11 => .inr (7, mO S)
  | 12 => .inl (0, 40, .inl (sAI S 9))
  | 13 => .inl (0, 40, .inl (fun k => nI (sAN S 10 k)))
  | 14 => .inl (0, 40, .inl (fun k => nI (sAN S 11 k)))
  | 15 => .inl (0, 40, .inl (fun k => nI (sAN S 12 k)))
  | 16 => .inl (2, 40, .inr (.inl (sAL S 13)))
  | 17 => .inl (3, 40, .inl (fun k => z_b (sAB S 14 k)))
  | 18 => .inl (2, 40, .inr (.inl (sAL S 15)))
  | 19 => .inl (3, 40, .inl (fun k => z_b (sAB S 16 k)))
  | 20 => .inl (3, 40, .inl (fun k => z_b (sAB S 17 k)))
  | 21 => .inl (0, 320, .inl (fun k => nI (sAN S 18 k)))
  | 22 => .inl (0, 320, .inl (fun k => nI (sAN S 19 k)))
  | 23 => .inl (0, 10, .inl (sAI S 21))
  | 24 => .inl (0, 10, .inl (fun k => nI (sAN S 22 k)))
  | 25 => .inl (3, 10, .inl (fun k => z_b (sAB S 23 k)))
  | 26 => .inl (0, 10, .inl (fun k => nI (sAN S 24 k)))
  | 27 => .inl (0, 10, .inl (fun k => nI (sAN S 25 k)))
  | 28 => .inl (0, 60, .inl (fun k => nI (sAN S 36 k)))
  | 29 => .inl (0, 60, .inl (fun k => nI (sAN S 39 k)))
  | 30 => .inl (0, 1000, .inl (fun k => nI (sAN S 41 k)))
  | _ => .inl (2, 1, .inr (.inl o))
theorem z_heap {cl : List vw_C} {G : z_G} {nL : Nat} {X : z_X} {Q : State → Prop} {cells slots pc : Nat} {lv : List (Nat × Value)} {st : List Value} {h : z_H} (h2 : z_H) (he : h = h2) (k : z_V cl G nL X Q cells slots pc lv st h2) : z_V cl G nL X Q cells slots pc lv st h := by rw [he]; exact k
/-- within a range, of whole numbers -/
def inZ (x a b : Int) : Bool := decide (a ≤ x) && decide (x ≤ b)

theorem upd_nI (f : Nat → Nat) (n l : Nat) : upd (fun k => nI (f k)) n (nI l) = fun k => nI (va_up f n l k) := by
  funext k
  by_cases h : k = n <;> simp [upd, va_up, h]
theorem upd_b (f : Nat → Bool) (n : Nat) (b : Bool) : upd (fun k => z_b (f k)) n (z_b b &&& 1) = fun k => z_b (va_up f n b k) := by
  funext k
  have hb : z_b b &&& 1 = z_b b := by cases b <;> rfl
  by_cases h : k = n <;> simp [upd, va_up, h, hb]
theorem mO_at {c : Nat → z_E} {S : z_S} {o : Nat → Int64} {d : z_H} : (HP c (mfun S o) d)[11]? = some (.inr (7, mO S)) := rfl
theorem ms_0 {c : Nat → z_E} {S : z_S} {o : Nat → Int64} {d : z_H} {v : Nat} : (HP c (mfun S o) d).set 11 (.inr (7, (mO S).set 0 (.int (nI v)))) = HP c (mfun (uN S 0 v) o) d := rfl
theorem ms_1 {c : Nat → z_E} {S : z_S} {o : Nat → Int64} {d : z_H} {v : Nat} : (HP c (mfun S o) d).set 11 (.inr (7, (mO S).set 1 (.int (nI v)))) = HP c (mfun (uN S 1 v) o) d := rfl
theorem ms_2 {c : Nat → z_E} {S : z_S} {o : Nat → Int64} {d : z_H} {v : Nat} : (HP c (mfun S o) d).set 11 (.inr (7, (mO S).set 2 (.int (nI v)))) = HP c (mfun (uN S 2 v) o) d := rfl
theorem ms_3 {c : Nat → z_E} {S : z_S} {o : Nat → Int64} {d : z_H} {v : Int64} : (HP c (mfun S o) d).set 11 (.inr (7, (mO S).set 3 (.long v))) = HP c (mfun (uL S 3 v) o) d := rfl
theorem ms_4 {c : Nat → z_E} {S : z_S} {o : Nat → Int64} {d : z_H} {v : Int64} : (HP c (mfun S o) d).set 11 (.inr (7, (mO S).set 4 (.long v))) = HP c (mfun (uL S 4 v) o) d := rfl
theorem ms_5 {c : Nat → z_E} {S : z_S} {o : Nat → Int64} {d : z_H} {v : Bool} : (HP c (mfun S o) d).set 11 (.inr (7, (mO S).set 5 (.int (z_b v)))) = HP c (mfun (uB S 5 v) o) d := rfl
theorem ms_6 {c : Nat → z_E} {S : z_S} {o : Nat → Int64} {d : z_H} {v : Bool} : (HP c (mfun S o) d).set 11 (.inr (7, (mO S).set 6 (.int (z_b v)))) = HP c (mfun (uB S 6 v) o) d := rfl
theorem ms_7 {c : Nat → z_E} {S : z_S} {o : Nat → Int64} {d : z_H} {v : Nat} : (HP c (mfun S o) d).set 11 (.inr (7, (mO S).set 7 (.int (nI v)))) = HP c (mfun (uN S 7 v) o) d := rfl
theorem ms_8 {c : Nat → z_E} {S : z_S} {o : Nat → Int64} {d : z_H} {v : Nat} : (HP c (mfun S o) d).set 11 (.inr (7, (mO S).set 8 (.int (nI v)))) = HP c (mfun (uN S 8 v) o) d := rfl
theorem mA_9 {c : Nat → z_E} {S : z_S} {o : Nat → Int64} {d : z_H} : (HP c (mfun S o) d)[12]? = some (.inl (0, 40, .inl (sAI S 9))) := rfl
theorem ma_9 {c : Nat → z_E} {S : z_S} {o : Nat → Int64} {d : z_H} {n : Nat} {v : Int32} : (HP c (mfun S o) d).set 12 (.inl (0, 40, .inl (upd (sAI S 9) n v))) = HP c (mfun (uAI S 9 (va_up (sAI S 9) n v)) o) d := rfl
theorem mA_10 {c : Nat → z_E} {S : z_S} {o : Nat → Int64} {d : z_H} : (HP c (mfun S o) d)[13]? = some (.inl (0, 40, .inl (fun k => nI (sAN S 10 k)))) := rfl
theorem ma_10 {c : Nat → z_E} {S : z_S} {o : Nat → Int64} {d : z_H} {n v : Nat} : (HP c (mfun S o) d).set 13 (.inl (0, 40, .inl (upd (fun k => nI (sAN S 10 k)) n (nI v)))) = HP c (mfun (uAN S 10 (va_up (sAN S 10) n v)) o) d := by rw [upd_nI]; rfl
theorem mA_11 {c : Nat → z_E} {S : z_S} {o : Nat → Int64} {d : z_H} : (HP c (mfun S o) d)[14]? = some (.inl (0, 40, .inl (fun k => nI (sAN S 11 k)))) := rfl
theorem ma_11 {c : Nat → z_E} {S : z_S} {o : Nat → Int64} {d : z_H} {n v : Nat} : (HP c (mfun S o) d).set 14 (.inl (0, 40, .inl (upd (fun k => nI (sAN S 11 k)) n (nI v)))) = HP c (mfun (uAN S 11 (va_up (sAN S 11) n v)) o) d := by rw [upd_nI]; rfl
theorem mA_12 {c : Nat → z_E} {S : z_S} {o : Nat → Int64} {d : z_H} : (HP c (mfun S o) d)[15]? = some (.inl (0, 40, .inl (fun k => nI (sAN S 12 k)))) := rfl
theorem ma_12 {c : Nat → z_E} {S : z_S} {o : Nat → Int64} {d : z_H} {n v : Nat} : (HP c (mfun S o) d).set 15 (.inl (0, 40, .inl (upd (fun k => nI (sAN S 12 k)) n (nI v)))) = HP c (mfun (uAN S 12 (va_up (sAN S 12) n v)) o) d := by rw [upd_nI]; rfl
theorem mA_13 {c : Nat → z_E} {S : z_S} {o : Nat → Int64} {d : z_H} : (HP c (mfun S o) d)[16]? = some (.inl (2, 40, .inr (.inl (sAL S 13)))) := rfl
theorem ma_13 {c : Nat → z_E} {S : z_S} {o : Nat → Int64} {d : z_H} {n : Nat} {v : Int64} : (HP c (mfun S o) d).set 16 (.inl (2, 40, .inr (.inl (vp_updL (sAL S 13) n v)))) = HP c (mfun (uAL S 13 (va_up (sAL S 13) n v)) o) d := rfl
theorem mA_14 {c : Nat → z_E} {S : z_S} {o : Nat → Int64} {d : z_H} : (HP c (mfun S o) d)[17]? = some (.inl (3, 40, .inl (fun k => z_b (sAB S 14 k)))) := rfl
theorem ma_14 {c : Nat → z_E} {S : z_S} {o : Nat → Int64} {d : z_H} {n : Nat} {v : Bool} : (HP c (mfun S o) d).set 17 (.inl (3, 40, .inl (upd (fun k => z_b (sAB S 14 k)) n (z_b v &&& 1)))) = HP c (mfun (uAB S 14 (va_up (sAB S 14) n v)) o) d := by rw [upd_b]; rfl
theorem mA_15 {c : Nat → z_E} {S : z_S} {o : Nat → Int64} {d : z_H} : (HP c (mfun S o) d)[18]? = some (.inl (2, 40, .inr (.inl (sAL S 15)))) := rfl
theorem ma_15 {c : Nat → z_E} {S : z_S} {o : Nat → Int64} {d : z_H} {n : Nat} {v : Int64} : (HP c (mfun S o) d).set 18 (.inl (2, 40, .inr (.inl (vp_updL (sAL S 15) n v)))) = HP c (mfun (uAL S 15 (va_up (sAL S 15) n v)) o) d := rfl
theorem mA_16 {c : Nat → z_E} {S : z_S} {o : Nat → Int64} {d : z_H} : (HP c (mfun S o) d)[19]? = some (.inl (3, 40, .inl (fun k => z_b (sAB S 16 k)))) := rfl
theorem ma_16 {c : Nat → z_E} {S : z_S} {o : Nat → Int64} {d : z_H} {n : Nat} {v : Bool} : (HP c (mfun S o) d).set 19 (.inl (3, 40, .inl (upd (fun k => z_b (sAB S 16 k)) n (z_b v &&& 1)))) = HP c (mfun (uAB S 16 (va_up (sAB S 16) n v)) o) d := by rw [upd_b]; rfl
theorem mA_17 {c : Nat → z_E} {S : z_S} {o : Nat → Int64} {d : z_H} : (HP c (mfun S o) d)[20]? = some (.inl (3, 40, .inl (fun k => z_b (sAB S 17 k)))) := rfl
theorem ma_17 {c : Nat → z_E} {S : z_S} {o : Nat → Int64} {d : z_H} {n : Nat} {v : Bool} : (HP c (mfun S o) d).set 20 (.inl (3, 40, .inl (upd (fun k => z_b (sAB S 17 k)) n (z_b v &&& 1)))) = HP c (mfun (uAB S 17 (va_up (sAB S 17) n v)) o) d := by rw [upd_b]; rfl
theorem mA_18 {c : Nat → z_E} {S : z_S} {o : Nat → Int64} {d : z_H} : (HP c (mfun S o) d)[21]? = some (.inl (0, 320, .inl (fun k => nI (sAN S 18 k)))) := rfl
theorem ma_18 {c : Nat → z_E} {S : z_S} {o : Nat → Int64} {d : z_H} {n v : Nat} : (HP c (mfun S o) d).set 21 (.inl (0, 320, .inl (upd (fun k => nI (sAN S 18 k)) n (nI v)))) = HP c (mfun (uAN S 18 (va_up (sAN S 18) n v)) o) d := by rw [upd_nI]; rfl
theorem mA_19 {c : Nat → z_E} {S : z_S} {o : Nat → Int64} {d : z_H} : (HP c (mfun S o) d)[22]? = some (.inl (0, 320, .inl (fun k => nI (sAN S 19 k)))) := rfl
theorem ma_19 {c : Nat → z_E} {S : z_S} {o : Nat → Int64} {d : z_H} {n v : Nat} : (HP c (mfun S o) d).set 22 (.inl (0, 320, .inl (upd (fun k => nI (sAN S 19 k)) n (nI v)))) = HP c (mfun (uAN S 19 (va_up (sAN S 19) n v)) o) d := by rw [upd_nI]; rfl
theorem ms_20 {c : Nat → z_E} {S : z_S} {o : Nat → Int64} {d : z_H} {v : Nat} : (HP c (mfun S o) d).set 11 (.inr (7, (mO S).set 20 (.int (nI v)))) = HP c (mfun (uN S 20 v) o) d := rfl
theorem mA_21 {c : Nat → z_E} {S : z_S} {o : Nat → Int64} {d : z_H} : (HP c (mfun S o) d)[23]? = some (.inl (0, 10, .inl (sAI S 21))) := rfl
theorem ma_21 {c : Nat → z_E} {S : z_S} {o : Nat → Int64} {d : z_H} {n : Nat} {v : Int32} : (HP c (mfun S o) d).set 23 (.inl (0, 10, .inl (upd (sAI S 21) n v))) = HP c (mfun (uAI S 21 (va_up (sAI S 21) n v)) o) d := rfl
theorem mA_22 {c : Nat → z_E} {S : z_S} {o : Nat → Int64} {d : z_H} : (HP c (mfun S o) d)[24]? = some (.inl (0, 10, .inl (fun k => nI (sAN S 22 k)))) := rfl
theorem ma_22 {c : Nat → z_E} {S : z_S} {o : Nat → Int64} {d : z_H} {n v : Nat} : (HP c (mfun S o) d).set 24 (.inl (0, 10, .inl (upd (fun k => nI (sAN S 22 k)) n (nI v)))) = HP c (mfun (uAN S 22 (va_up (sAN S 22) n v)) o) d := by rw [upd_nI]; rfl
theorem mA_23 {c : Nat → z_E} {S : z_S} {o : Nat → Int64} {d : z_H} : (HP c (mfun S o) d)[25]? = some (.inl (3, 10, .inl (fun k => z_b (sAB S 23 k)))) := rfl
theorem ma_23 {c : Nat → z_E} {S : z_S} {o : Nat → Int64} {d : z_H} {n : Nat} {v : Bool} : (HP c (mfun S o) d).set 25 (.inl (3, 10, .inl (upd (fun k => z_b (sAB S 23 k)) n (z_b v &&& 1)))) = HP c (mfun (uAB S 23 (va_up (sAB S 23) n v)) o) d := by rw [upd_b]; rfl
theorem mA_24 {c : Nat → z_E} {S : z_S} {o : Nat → Int64} {d : z_H} : (HP c (mfun S o) d)[26]? = some (.inl (0, 10, .inl (fun k => nI (sAN S 24 k)))) := rfl
theorem ma_24 {c : Nat → z_E} {S : z_S} {o : Nat → Int64} {d : z_H} {n v : Nat} : (HP c (mfun S o) d).set 26 (.inl (0, 10, .inl (upd (fun k => nI (sAN S 24 k)) n (nI v)))) = HP c (mfun (uAN S 24 (va_up (sAN S 24) n v)) o) d := by rw [upd_nI]; rfl
theorem mA_25 {c : Nat → z_E} {S : z_S} {o : Nat → Int64} {d : z_H} : (HP c (mfun S o) d)[27]? = some (.inl (0, 10, .inl (fun k => nI (sAN S 25 k)))) := rfl
theorem ma_25 {c : Nat → z_E} {S : z_S} {o : Nat → Int64} {d : z_H} {n v : Nat} : (HP c (mfun S o) d).set 27 (.inl (0, 10, .inl (upd (fun k => nI (sAN S 25 k)) n (nI v)))) = HP c (mfun (uAN S 25 (va_up (sAN S 25) n v)) o) d := by rw [upd_nI]; rfl
theorem ms_26 {c : Nat → z_E} {S : z_S} {o : Nat → Int64} {d : z_H} {v : Bool} : (HP c (mfun S o) d).set 11 (.inr (7, (mO S).set 26 (.int (z_b v)))) = HP c (mfun (uB S 26 v) o) d := rfl
theorem ms_27 {c : Nat → z_E} {S : z_S} {o : Nat → Int64} {d : z_H} {v : Nat} : (HP c (mfun S o) d).set 11 (.inr (7, (mO S).set 27 (.int (nI v)))) = HP c (mfun (uN S 27 v) o) d := rfl
theorem ms_28 {c : Nat → z_E} {S : z_S} {o : Nat → Int64} {d : z_H} {v : Nat} : (HP c (mfun S o) d).set 11 (.inr (7, (mO S).set 28 (.int (nI v)))) = HP c (mfun (uN S 28 v) o) d := rfl
theorem ms_29 {c : Nat → z_E} {S : z_S} {o : Nat → Int64} {d : z_H} {v : Nat} : (HP c (mfun S o) d).set 11 (.inr (7, (mO S).set 29 (.int (nI v)))) = HP c (mfun (uN S 29 v) o) d := rfl
theorem ms_30 {c : Nat → z_E} {S : z_S} {o : Nat → Int64} {d : z_H} {v : Nat} : (HP c (mfun S o) d).set 11 (.inr (7, (mO S).set 30 (.int (nI v)))) = HP c (mfun (uN S 30 v) o) d := rfl
theorem ms_31 {c : Nat → z_E} {S : z_S} {o : Nat → Int64} {d : z_H} {v : Bool} : (HP c (mfun S o) d).set 11 (.inr (7, (mO S).set 31 (.int (z_b v)))) = HP c (mfun (uB S 31 v) o) d := rfl
theorem ms_32 {c : Nat → z_E} {S : z_S} {o : Nat → Int64} {d : z_H} {v : Nat} : (HP c (mfun S o) d).set 11 (.inr (7, (mO S).set 32 (.int (nI v)))) = HP c (mfun (uN S 32 v) o) d := rfl
theorem ms_33 {c : Nat → z_E} {S : z_S} {o : Nat → Int64} {d : z_H} {v : Bool} : (HP c (mfun S o) d).set 11 (.inr (7, (mO S).set 33 (.int (z_b v)))) = HP c (mfun (uB S 33 v) o) d := rfl
theorem ms_34 {c : Nat → z_E} {S : z_S} {o : Nat → Int64} {d : z_H} {v : Bool} : (HP c (mfun S o) d).set 11 (.inr (7, (mO S).set 34 (.int (z_b v)))) = HP c (mfun (uB S 34 v) o) d := rfl
theorem ms_35 {c : Nat → z_E} {S : z_S} {o : Nat → Int64} {d : z_H} {v : Nat} : (HP c (mfun S o) d).set 11 (.inr (7, (mO S).set 35 (.int (nI v)))) = HP c (mfun (uN S 35 v) o) d := rfl
theorem mA_36 {c : Nat → z_E} {S : z_S} {o : Nat → Int64} {d : z_H} : (HP c (mfun S o) d)[28]? = some (.inl (0, 60, .inl (fun k => nI (sAN S 36 k)))) := rfl
theorem ma_36 {c : Nat → z_E} {S : z_S} {o : Nat → Int64} {d : z_H} {n v : Nat} : (HP c (mfun S o) d).set 28 (.inl (0, 60, .inl (upd (fun k => nI (sAN S 36 k)) n (nI v)))) = HP c (mfun (uAN S 36 (va_up (sAN S 36) n v)) o) d := by rw [upd_nI]; rfl
theorem ms_37 {c : Nat → z_E} {S : z_S} {o : Nat → Int64} {d : z_H} {v : Bool} : (HP c (mfun S o) d).set 11 (.inr (7, (mO S).set 37 (.int (z_b v)))) = HP c (mfun (uB S 37 v) o) d := rfl
theorem ms_38 {c : Nat → z_E} {S : z_S} {o : Nat → Int64} {d : z_H} {v : Nat} : (HP c (mfun S o) d).set 11 (.inr (7, (mO S).set 38 (.int (nI v)))) = HP c (mfun (uN S 38 v) o) d := rfl
theorem mA_39 {c : Nat → z_E} {S : z_S} {o : Nat → Int64} {d : z_H} : (HP c (mfun S o) d)[29]? = some (.inl (0, 60, .inl (fun k => nI (sAN S 39 k)))) := rfl
theorem ma_39 {c : Nat → z_E} {S : z_S} {o : Nat → Int64} {d : z_H} {n v : Nat} : (HP c (mfun S o) d).set 29 (.inl (0, 60, .inl (upd (fun k => nI (sAN S 39 k)) n (nI v)))) = HP c (mfun (uAN S 39 (va_up (sAN S 39) n v)) o) d := by rw [upd_nI]; rfl
theorem ms_40 {c : Nat → z_E} {S : z_S} {o : Nat → Int64} {d : z_H} {v : Nat} : (HP c (mfun S o) d).set 11 (.inr (7, (mO S).set 40 (.int (nI v)))) = HP c (mfun (uN S 40 v) o) d := rfl
theorem mA_41 {c : Nat → z_E} {S : z_S} {o : Nat → Int64} {d : z_H} : (HP c (mfun S o) d)[30]? = some (.inl (0, 1000, .inl (fun k => nI (sAN S 41 k)))) := rfl
theorem ma_41 {c : Nat → z_E} {S : z_S} {o : Nat → Int64} {d : z_H} {n v : Nat} : (HP c (mfun S o) d).set 30 (.inl (0, 1000, .inl (upd (fun k => nI (sAN S 41 k)) n (nI v)))) = HP c (mfun (uAN S 41 (va_up (sAN S 41) n v)) o) d := by rw [upd_nI]; rfl
theorem ms_42 {c : Nat → z_E} {S : z_S} {o : Nat → Int64} {d : z_H} {v : Int32} : (HP c (mfun S o) d).set 11 (.inr (7, (mO S).set 42 (.int v))) = HP c (mfun (uF S v) o) d := rfl
set_option maxRecDepth 100000 in
set_option maxHeartbeats 1000000 in
theorem c_X6_isIn {h : z_H} (x a b : Int64) : z_K yX6_isIn cX6_isIn 6 (some .boolean) 0 0 0 [.long x, .long a, .long b] h (fun v h' => v = some (.int (z_b (inZ x.toInt a.toInt b.toInt))) ∧ h' = h) := by
  refine z_met vI_X6_isIn (Nat.le_of_ble_eq_true rfl) (fun G X F hr hnm => ?_)
  refine z_lload_n F dX6_isIn_0 rfl ?_
  refine z_lload_n F dX6_isIn_1 rfl ?_
  refine z_lcmp F dX6_isIn_2 ?_
  refine z_if_lt (tgt := 17) F dX6_isIn_3 (by decide) (fun c3 => ?_) (fun c3 => ?_)
  · have hz : inZ x.toInt a.toInt b.toInt = false := by unfold inZ; rw [decide_eq_false (by have := Int64.lt_iff_toInt_lt.mp ((lg_cmp_lt _ _).mp c3); omega)]; rfl
    refine z_iconst (v := 0) F dX6_isIn_17 rfl ?_
    exact z_iret F hr dX6_isIn_18 rfl (Nat.le_of_ble_eq_true rfl) (Nat.le_of_ble_eq_true rfl) (⟨by rw [hz]; rfl, rfl⟩)
  · refine z_lload_n F dX6_isIn_6 rfl ?_
    refine z_lload F dX6_isIn_7 rfl ?_
    refine z_lcmp F dX6_isIn_9 ?_
    refine z_if_gt (tgt := 17) F dX6_isIn_10 (by decide) (fun c10 => ?_) (fun c10 => ?_)
    · have hz : inZ x.toInt a.toInt b.toInt = false := by unfold inZ; rw [decide_eq_false (p := x.toInt ≤ b.toInt) (by have := Int64.lt_iff_toInt_lt.mp ((lg_cmp_gt _ _).mp c10); omega)]; simp
      refine z_iconst (v := 0) F dX6_isIn_17 rfl ?_
      exact z_iret F hr dX6_isIn_18 rfl (Nat.le_of_ble_eq_true rfl) (Nat.le_of_ble_eq_true rfl) (⟨by rw [hz]; rfl, rfl⟩)
    · have h3 : ¬ x.toInt < a.toInt := fun q => c3 ((lg_cmp_lt _ _).mpr (Int64.lt_iff_toInt_lt.mpr q))
      have h9 : ¬ b.toInt < x.toInt := fun q => c10 ((lg_cmp_gt _ _).mpr (Int64.lt_iff_toInt_lt.mpr q))
      have hz : inZ x.toInt a.toInt b.toInt = true := by unfold inZ; rw [decide_eq_true (by omega), decide_eq_true (by omega)]; rfl
      refine z_iconst (v := 1) F dX6_isIn_13 rfl ?_
      refine z_goto (tgt := 18) F dX6_isIn_14 (by decide) ?_
      exact z_iret F hr dX6_isIn_18 rfl (Nat.le_of_ble_eq_true rfl) (Nat.le_of_ble_eq_true rfl) (⟨by rw [hz]; rfl, rfl⟩)

set_option maxRecDepth 100000 in
set_option maxHeartbeats 1000000 in
theorem c_X5_isWithin {h : z_H} (x a b : Int32) : z_K yX5_isWithin cX5_isWithin 3 (some .boolean) 0 0 0 [.int x, .int a, .int b] h (fun v h' => v = some (.int (z_b (inZ x.toInt a.toInt b.toInt))) ∧ h' = h) := by
  refine z_met vI_X5_isWithin (Nat.le_of_ble_eq_true rfl) (fun G X F hr hnm => ?_)
  refine z_iload_n F dX5_isWithin_0 rfl ?_
  refine z_iload_n F dX5_isWithin_1 rfl ?_
  refine z_icmp_lt (tgt := 14) F dX5_isWithin_2 (by decide) (fun c2 => ?_) (fun c2 => ?_)
  · have hz : inZ x.toInt a.toInt b.toInt = false := by unfold inZ; rw [decide_eq_false (by have := Int32.lt_iff_toInt_lt.mp c2; omega)]; rfl
    refine z_iconst (v := 0) F dX5_isWithin_14 rfl ?_
    exact z_iret F hr dX5_isWithin_15 rfl (Nat.le_of_ble_eq_true rfl) (Nat.le_of_ble_eq_true rfl) (⟨by rw [hz]; rfl, rfl⟩)
  · refine z_iload_n F dX5_isWithin_5 rfl ?_
    refine z_iload_n F dX5_isWithin_6 rfl ?_
    refine z_icmp_gt (tgt := 14) F dX5_isWithin_7 (by decide) (fun c7 => ?_) (fun c7 => ?_)
    · have hz : inZ x.toInt a.toInt b.toInt = false := by unfold inZ; rw [decide_eq_false (p := x.toInt ≤ b.toInt) (by have := Int32.lt_iff_toInt_lt.mp c7; omega)]; simp
      refine z_iconst (v := 0) F dX5_isWithin_14 rfl ?_
      exact z_iret F hr dX5_isWithin_15 rfl (Nat.le_of_ble_eq_true rfl) (Nat.le_of_ble_eq_true rfl) (⟨by rw [hz]; rfl, rfl⟩)
    · have h3 : ¬ x.toInt < a.toInt := fun q => c2 (Int32.lt_iff_toInt_lt.mpr q)
      have h9 : ¬ b.toInt < x.toInt := fun q => c7 (Int32.lt_iff_toInt_lt.mpr q)
      have hz : inZ x.toInt a.toInt b.toInt = true := by unfold inZ; rw [decide_eq_true (by omega), decide_eq_true (by omega)]; rfl
      refine z_iconst (v := 1) F dX5_isWithin_10 rfl ?_
      refine z_goto (tgt := 15) F dX5_isWithin_11 (by decide) ?_
      exact z_iret F hr dX5_isWithin_15 rfl (Nat.le_of_ble_eq_true rfl) (Nat.le_of_ble_eq_true rfl) (⟨by rw [hz]; rfl, rfl⟩)

set_option maxRecDepth 100000 in
set_option maxHeartbeats 1000000 in
theorem c_X6_thrown {c : Nat → z_E} {S : z_S} {o : Nat → Int64} {d : z_H} : z_K yX6_thrown cX6_thrown 1 (some .int) 0 0 0 [.ref 11] (HP c (mfun S o) d) (fun v h' => v = some (.int (nI (sN S 0))) ∧ h' = (HP c (mfun S o) d)) := by
  refine z_met vI_X6_thrown (Nat.le_of_ble_eq_true rfl) (fun G X F hr hnm => ?_)
  refine z_aload_n F dX6_thrown_0 rfl rfl ?_
  refine z_getf F vF_X6_83 dX6_thrown_1 mO_at rfl ?_
  exact z_iret F hr dX6_thrown_4 rfl (Nat.le_of_ble_eq_true rfl) (Nat.le_of_ble_eq_true rfl) (⟨rfl, rfl⟩)

set_option maxRecDepth 100000 in
set_option maxHeartbeats 1000000 in
theorem c_X6_code {c : Nat → z_E} {S : z_S} {o : Nat → Int64} {d : z_H} : z_K yX6_code cX6_code 1 (some .int) 0 0 0 [.ref 11] (HP c (mfun S o) d) (fun v h' => v = some (.int (sF S)) ∧ h' = HP c (mfun (uN S 0 0) o) d) := by
  refine z_met vI_X6_code (Nat.le_of_ble_eq_true rfl) (fun G X F hr hnm => ?_)
  refine z_aload_n F dX6_code_0 rfl rfl ?_
  refine z_iconst (v := 0) F dX6_code_1 rfl ?_
  refine z_putf F vF_X6_83 vT_X6 vD_X6_0 dX6_code_2 mO_at (Nat.le_of_ble_eq_true rfl) rfl rfl (fun g2 => ?_)
  refine z_heap _ (ms_0 (v := 0)) ?_
  refine z_aload_n F dX6_code_5 rfl rfl ?_
  refine z_getf F vF_X6_80 dX6_code_6 mO_at rfl ?_
  exact z_iret F hr dX6_code_9 rfl (Nat.le_of_ble_eq_true rfl) (Nat.le_of_ble_eq_true rfl) (⟨rfl, rfl⟩)
end
section
/-- the first place with this number -/
def fnd (f : Nat → Int32) (x : Int32) : Nat → Option Nat
  | 0 => none
  | n + 1 => match fnd f x n with
    | some k => some k
    | none => if f n = x then some n else none
def fI (r : Option Nat) : Int32 := match r with
  | none => -1
  | some k => nI k
theorem fnd_none {f : Nat → Int32} {x : Int32} : ∀ {n : Nat}, fnd f x n = none ↔ ∀ j, j < n → ¬ f j = x
  | 0 => ⟨fun _ j hj => absurd hj (Nat.not_lt_zero j), fun _ => rfl⟩
  | n + 1 => by
    unfold fnd
    cases h : fnd f x n with
    | some k =>
      refine ⟨fun q => by simp at q, fun q => ?_⟩
      have := (fnd_none (n := n)).mpr (fun j hj => q j (by omega))
      rw [h] at this
      cases this
    | none =>
      have h2 := fnd_none.mp h
      by_cases e : f n = x
      · simp only [e, if_pos]
        exact ⟨fun q => by simp at q, fun q => absurd e (q n (by omega))⟩
      · simp only [if_neg e, true_iff]
        intro j hj
        by_cases hjn : j = n
        · rw [hjn]; exact e
        · exact h2 j (by omega)
theorem fnd_at {f : Nat → Int32} {x : Int32} {k : Nat} (hf : f k = x) (hm : ∀ j, j < k → ¬ f j = x) : ∀ {n : Nat}, k < n → fnd f x n = some k
  | n + 1, hk => by
    unfold fnd
    by_cases hkn : k = n
    · subst hkn
      rw [fnd_none.mpr hm]
      simp [hf]
    · rw [fnd_at hf hm (n := n) (by omega)]
theorem fnd_some {f : Nat → Int32} {x : Int32} : ∀ {n k : Nat}, fnd f x n = some k → k < n ∧ f k = x ∧ ∀ j, j < k → ¬ f j = x
  | n + 1, k, h => by
    unfold fnd at h
    cases e : fnd f x n with
    | some j =>
      rw [e] at h
      cases h
      have := fnd_some e
      exact ⟨by omega, this.2⟩
    | none =>
      rw [e] at h
      by_cases e2 : f n = x
      · simp only [e2, if_pos] at h
        cases h
        exact ⟨by omega, e2, fnd_none.mp e⟩
      · simp only [if_neg e2] at h
        cases h
theorem z_b1 {b : Bool} (h : ¬ z_b b = 0) : b = true := by cases b <;> first | rfl | exact absurd rfl h
def tn (x : Int32) : Nat := x.toInt.toNat
theorem inZ_nI {x : Int32} {a b : Int} (ha : 0 ≤ a) (h : inZ x.toInt a b = true) : x = nI (tn x) ∧ a ≤ (tn x : Int) ∧ (tn x : Int) ≤ b := by
  unfold inZ at h
  simp only [Bool.and_eq_true, decide_eq_true_eq] at h
  have h1 : ((tn x : Nat) : Int) = x.toInt := Int.toNat_of_nonneg (by omega)
  have hlt : x.toInt < 2 ^ 31 := Int32.toInt_lt x
  refine ⟨?_, by omega, by omega⟩
  apply Int32.toInt_inj.mp
  rw [nI_toInt (by omega), h1]
theorem c_isIn32 {h : z_H} (x : Int32) (a b : Int64) {A B : Int} (ha : a.toInt = A) (hb : b.toInt = B) : z_K yX6_isIn cX6_isIn 6 (some .boolean) 0 0 0 [.long x.toInt64, .long a, .long b] h (fun v h' => v = some (.int (z_b (inZ x.toInt A B))) ∧ h' = h) := by
  have := c_X6_isIn (h := h) x.toInt64 a b
  rw [Int32.toInt_toInt64, ha, hb] at this
  exact this

set_option maxRecDepth 100000 in
set_option maxHeartbeats 1000000 in
theorem l_X6_find {c : Nat → z_E} {S : z_S} {o : Nat → Int64} {d : z_H} {x : Int32} (h40 : sN S 8 ≤ 40) {G : z_G} {X : z_X} (F : z_F vwCl z_ats z_nw wsL_law G RX6 cX6_find 3 (z_rm 0 0 0) X) (hr : X.2.2.2.2.2.2.2.2.1.sig.returnType = some .int) :
    ∀ (m i : Nat), (i + m = sN S 8 ∧ ∀ j, j < i → ¬ sAI S 9 j = x) → z_V vwCl G 3 X (z_end vwCl z_ats z_nw G X 0 0 (fun v h' => v = some (.int (fI (fnd (sAI S 9) x (sN S 8)))) ∧ h' = (HP c (mfun S o) d))) 0 0 2 [(0, .ref 11), (1, .int x), (2, .int (nI i))] [] (HP c (mfun S o) d) := by
  intro m
  induction m with
  | zero =>
    intro i hi
    obtain ⟨hi, hm⟩ := hi
    have hz : fnd (sAI S 9) x (sN S 8) = none := fnd_none.mpr (fun j hj => hm j (by omega))
    refine z_iload_n F dX6_find_2 rfl ?_
    refine z_aload_n F dX6_find_3 rfl rfl ?_
    refine z_getf F vF_X6_86 dX6_find_4 mO_at rfl ?_
    refine z_icmp_ge (tgt := 28) F dX6_find_7 (by decide) (fun c7 => ?_) (fun c7 => absurd (nI_le (show sN S 8 ≤ i by omega) (by omega)) c7)
    refine z_iconst (v := (-1)) F dX6_find_28 rfl ?_
    exact z_iret F hr dX6_find_29 rfl (Nat.le_of_ble_eq_true rfl) (Nat.le_of_ble_eq_true rfl) (⟨by rw [hz]; rfl, rfl⟩)
  | succ m ih =>
    intro i hi
    obtain ⟨hi, hm⟩ := hi
    refine z_iload_n F dX6_find_2 rfl ?_
    refine z_aload_n F dX6_find_3 rfl rfl ?_
    refine z_getf F vF_X6_86 dX6_find_4 mO_at rfl ?_
    refine z_icmp_ge (tgt := 28) F dX6_find_7 (by decide) (fun c7 => absurd c7 (nI_ge (show i < sN S 8 by omega) (by omega))) (fun c7 => ?_)
    refine z_aload_n F dX6_find_10 rfl rfl ?_
    refine z_getf F vF_X6_20 dX6_find_11 mO_at rfl ?_
    refine z_iload_n F dX6_find_14 rfl ?_
    refine z_iald F dX6_find_15 mA_9 rfl rfl (show i < 40 by omega) (Nat.le_of_ble_eq_true rfl) ?_
    refine z_iload_n F dX6_find_16 rfl ?_
    refine z_icmp_ne (tgt := 22) F dX6_find_17 (by decide) (fun c17 => ?_) (fun c17 => ?_)
    · refine z_iinc (w := 1) F dX6_find_22 rfl rfl (Nat.le_of_ble_eq_true rfl) ?_
      rw [nI_1]
      refine z_goto (tgt := 2) F dX6_find_25 (by decide) ?_
      refine ih (i + 1) ⟨by omega, fun j hj => ?_⟩
      by_cases hji : j = i
      · rw [hji]; exact c17
      · exact hm j (by omega)
    · have hz : fnd (sAI S 9) x (sN S 8) = some i := fnd_at c17 hm (by omega)
      refine z_iload_n F dX6_find_20 rfl ?_
      exact z_iret F hr dX6_find_21 rfl (Nat.le_of_ble_eq_true rfl) (Nat.le_of_ble_eq_true rfl) (⟨by rw [hz]; rfl, rfl⟩)

set_option maxRecDepth 100000 in
set_option maxHeartbeats 1000000 in
theorem c_X6_find {c : Nat → z_E} {S : z_S} {o : Nat → Int64} {d : z_H} {x : Int32} (h40 : sN S 8 ≤ 40) : z_K yX6_find cX6_find 3 (some .int) 0 0 0 [.ref 11, .int x] (HP c (mfun S o) d) (fun v h' => v = some (.int (fI (fnd (sAI S 9) x (sN S 8)))) ∧ h' = (HP c (mfun S o) d)) := by
  refine z_met vI_X6_find (Nat.le_of_ble_eq_true rfl) (fun G X F hr hnm => ?_)
  refine z_iconst (v := 0) F dX6_find_0 rfl ?_
  refine z_istore_n F dX6_find_1 (Nat.le_of_ble_eq_true rfl) ?_
  exact l_X6_find h40 F hr (sN S 8) 0 ⟨by omega, fun j hj => absurd hj (Nat.not_lt_zero j)⟩

def s_add (S : z_S) (id : Int32) (n s l : Nat) : z_S := uN (uAN (uAN (uAN (uAI S 9 (va_up (sAI S 9) (sN S 8) id)) 10 (va_up (sAN S 10) (sN S 8) n)) 11 (va_up (sAN S 11) (sN S 8) s)) 12 (va_up (sAN S 12) (sN S 8) l)) 8 (sN S 8 + 1)

set_option maxRecDepth 100000 in
set_option maxHeartbeats 1000000 in
theorem c_X6_add {c : Nat → z_E} {S : z_S} {o : Nat → Int64} {d : z_H} {id : Int32} {n s l : Nat} (h40 : sN S 8 < 40) : z_K yX6_add cX6_add 5 (some .int) 0 0 0 [.ref 11, .int id, .int (nI n), .int (nI s), .int (nI l)] (HP c (mfun S o) d) (fun v h' => v = some (.int (nI (sN S 8 + 1))) ∧ h' = (HP c (mfun (s_add S id n s l) o) d)) := by
  refine z_met vI_X6_add (Nat.le_of_ble_eq_true rfl) (fun G X F hr hnm => ?_)
  refine z_aload_n F dX6_add_0 rfl rfl ?_
  refine z_getf F vF_X6_20 dX6_add_1 mO_at rfl ?_
  refine z_aload_n F dX6_add_4 rfl rfl ?_
  refine z_getf F vF_X6_86 dX6_add_5 mO_at rfl ?_
  refine z_iload_n F dX6_add_8 rfl ?_
  refine z_iast F dX6_add_9 mA_9 rfl rfl h40 (Nat.le_of_ble_eq_true rfl) ?_
  refine z_heap _ (ma_9) ?_
  refine z_aload_n F dX6_add_10 rfl rfl ?_
  refine z_getf F vF_X6_24 dX6_add_11 mO_at rfl ?_
  refine z_aload_n F dX6_add_14 rfl rfl ?_
  refine z_getf F vF_X6_86 dX6_add_15 mO_at rfl ?_
  refine z_iload_n F dX6_add_18 rfl ?_
  refine z_iast F dX6_add_19 mA_10 rfl rfl h40 (Nat.le_of_ble_eq_true rfl) ?_
  refine z_heap _ (ma_10) ?_
  refine z_aload_n F dX6_add_20 rfl rfl ?_
  refine z_getf F vF_X6_27 dX6_add_21 mO_at rfl ?_
  refine z_aload_n F dX6_add_24 rfl rfl ?_
  refine z_getf F vF_X6_86 dX6_add_25 mO_at rfl ?_
  refine z_iload_n F dX6_add_28 rfl ?_
  refine z_iast F dX6_add_29 mA_11 rfl rfl h40 (Nat.le_of_ble_eq_true rfl) ?_
  refine z_heap _ (ma_11) ?_
  refine z_aload_n F dX6_add_30 rfl rfl ?_
  refine z_getf F vF_X6_30 dX6_add_31 mO_at rfl ?_
  refine z_aload_n F dX6_add_34 rfl rfl ?_
  refine z_getf F vF_X6_86 dX6_add_35 mO_at rfl ?_
  refine z_iload F dX6_add_38 rfl ?_
  refine z_iast F dX6_add_40 mA_12 rfl rfl h40 (Nat.le_of_ble_eq_true rfl) ?_
  refine z_heap _ (ma_12) ?_
  refine z_aload_n F dX6_add_41 rfl rfl ?_
  refine z_dup F dX6_add_42 rfl ?_
  refine z_getf F vF_X6_86 dX6_add_43 mO_at rfl ?_
  refine z_iconst (v := 1) F dX6_add_46 rfl ?_
  refine z_iadd F dX6_add_47 ?_
  rw [nI_1]
  refine z_putf F vF_X6_86 vT_X6 vD_X6_8 dX6_add_48 mO_at (Nat.le_of_ble_eq_true rfl) rfl rfl (fun g48 => ?_)
  refine z_heap _ (ms_8) ?_
  refine z_aload_n F dX6_add_51 rfl rfl ?_
  refine z_getf F vF_X6_86 dX6_add_52 mO_at rfl ?_
  exact z_iret F hr dX6_add_55 rfl (Nat.le_of_ble_eq_true rfl) (Nat.le_of_ble_eq_true rfl) (⟨rfl, rfl⟩)

def sp_rights (S : z_S) (x : Int32) : Int32 × z_S := if inZ x.toInt 0 3 = true then (nI (sN S 2), uN (uN S 0 0) 2 (tn x)) else (-2, uN S 0 0)

set_option maxRecDepth 100000 in
set_option maxHeartbeats 1000000 in
theorem c_X6_rights {c : Nat → z_E} {S : z_S} {o : Nat → Int64} {d : z_H} (x : Int32) : z_K yX6_rights cX6_rights 3 (some .int) 1 0 0 [.ref 11, .int x] (HP c (mfun S o) d) (fun v h' => v = some (.int (sp_rights S x).1) ∧ h' = (HP c (mfun ((sp_rights S x).2) o) d)) := by
  refine z_met vI_X6_rights (Nat.le_of_ble_eq_true rfl) (fun G X F hr hnm => ?_)
  refine z_aload_n F dX6_rights_0 rfl rfl ?_
  refine z_iconst (v := 0) F dX6_rights_1 rfl ?_
  refine z_putf F vF_X6_83 vT_X6 vD_X6_0 dX6_rights_2 mO_at (Nat.le_of_ble_eq_true rfl) rfl rfl (fun g2 => ?_)
  refine z_heap _ (ms_0 (v := 0)) ?_
  refine z_iload_n F dX6_rights_5 rfl ?_
  refine z_i2l F dX6_rights_6 ?_
  refine z_lconst (v := 0) F dX6_rights_7 rfl ?_
  refine z_ldc2 F vK_X6_97 dX6_rights_8 ?_
  refine z_callS F z_nwOK wL_good (c_isIn32 (A := 0) (B := 3) x 0 3 rfl rfl) vI_X6_isIn vM_X6_91 vS_X6_isIn rfl dX6_rights_11 rfl rfl (Nat.le_of_ble_eq_true rfl) ⟨(Nat.le_of_ble_eq_true rfl), (Nat.le_of_ble_eq_true rfl), (Nat.le_of_ble_eq_true rfl), (Nat.le_of_ble_eq_true rfl)⟩ (fun v h1 hq => ?_)
  obtain ⟨rfl, rfl⟩ := hq
  refine z_if_ne (tgt := 20) F dX6_rights_14 (by decide) (fun c14 => ?_) (fun c14 => ?_)
  · have hA := z_b1 c14
    obtain ⟨h1, h2, h3⟩ := inZ_nI (by decide) hA
    have hs : sp_rights S x = (nI (sN S 2), uN (uN S 0 0) 2 (tn x)) := if_pos hA
    refine z_aload_n F dX6_rights_20 rfl rfl ?_
    refine z_getf F vF_X6_112 dX6_rights_21 mO_at rfl ?_
    refine z_istore_n F dX6_rights_24 (Nat.le_of_ble_eq_true rfl) ?_
    refine z_aload_n F dX6_rights_25 rfl rfl ?_
    refine z_iload_n F dX6_rights_26 rfl ?_
    rw [show Value.int x = Value.int (nI (tn x)) from congrArg Value.int h1]
    refine z_putf F vF_X6_112 vT_X6 vD_X6_2 dX6_rights_27 mO_at (Nat.le_of_ble_eq_true rfl) rfl rfl (fun g27 => ?_)
    refine z_heap _ (ms_2) ?_
    refine z_iload_n F dX6_rights_30 rfl ?_
    exact z_iret F hr dX6_rights_31 rfl (Nat.le_of_ble_eq_true rfl) (Nat.le_of_ble_eq_true rfl) (⟨by rw [hs]; try rfl, by rw [hs]; try rfl⟩)
  · have hs : sp_rights S x = (-2, uN S 0 0) := if_neg (by rw [z_b0.mp c14]; decide)
    refine z_bipush (v := (-2)) F dX6_rights_17 rfl ?_
    exact z_iret F hr dX6_rights_19 rfl (Nat.le_of_ble_eq_true rfl) (Nat.le_of_ble_eq_true rfl) (⟨by rw [hs]; try rfl, by rw [hs]; try rfl⟩)

def sp_pending (S : z_S) (x : Int32) : Int32 × z_S := if inZ x.toInt 0 10 = true then (nI (sN S 7), uN (uN S 0 0) 7 (tn x)) else (-2, uN S 0 0)

set_option maxRecDepth 100000 in
set_option maxHeartbeats 1000000 in
theorem c_X6_pending {c : Nat → z_E} {S : z_S} {o : Nat → Int64} {d : z_H} (x : Int32) : z_K yX6_pending cX6_pending 3 (some .int) 1 0 0 [.ref 11, .int x] (HP c (mfun S o) d) (fun v h' => v = some (.int (sp_pending S x).1) ∧ h' = (HP c (mfun ((sp_pending S x).2) o) d)) := by
  refine z_met vI_X6_pending (Nat.le_of_ble_eq_true rfl) (fun G X F hr hnm => ?_)
  refine z_aload_n F dX6_pending_0 rfl rfl ?_
  refine z_iconst (v := 0) F dX6_pending_1 rfl ?_
  refine z_putf F vF_X6_83 vT_X6 vD_X6_0 dX6_pending_2 mO_at (Nat.le_of_ble_eq_true rfl) rfl rfl (fun g2 => ?_)
  refine z_heap _ (ms_0 (v := 0)) ?_
  refine z_iload_n F dX6_pending_5 rfl ?_
  refine z_i2l F dX6_pending_6 ?_
  refine z_lconst (v := 0) F dX6_pending_7 rfl ?_
  refine z_ldc2 F vK_X6_115 dX6_pending_8 ?_
  refine z_callS F z_nwOK wL_good (c_isIn32 (A := 0) (B := 10) x 0 10 rfl rfl) vI_X6_isIn vM_X6_91 vS_X6_isIn rfl dX6_pending_11 rfl rfl (Nat.le_of_ble_eq_true rfl) ⟨(Nat.le_of_ble_eq_true rfl), (Nat.le_of_ble_eq_true rfl), (Nat.le_of_ble_eq_true rfl), (Nat.le_of_ble_eq_true rfl)⟩ (fun v h1 hq => ?_)
  obtain ⟨rfl, rfl⟩ := hq
  refine z_if_ne (tgt := 20) F dX6_pending_14 (by decide) (fun c14 => ?_) (fun c14 => ?_)
  · have hA := z_b1 c14
    obtain ⟨h1, h2, h3⟩ := inZ_nI (by decide) hA
    have hs : sp_pending S x = (nI (sN S 7), uN (uN S 0 0) 7 (tn x)) := if_pos hA
    refine z_aload_n F dX6_pending_20 rfl rfl ?_
    refine z_getf F vF_X6_117 dX6_pending_21 mO_at rfl ?_
    refine z_istore_n F dX6_pending_24 (Nat.le_of_ble_eq_true rfl) ?_
    refine z_aload_n F dX6_pending_25 rfl rfl ?_
    refine z_iload_n F dX6_pending_26 rfl ?_
    rw [show Value.int x = Value.int (nI (tn x)) from congrArg Value.int h1]
    refine z_putf F vF_X6_117 vT_X6 vD_X6_7 dX6_pending_27 mO_at (Nat.le_of_ble_eq_true rfl) rfl rfl (fun g27 => ?_)
    refine z_heap _ (ms_7) ?_
    refine z_iload_n F dX6_pending_30 rfl ?_
    exact z_iret F hr dX6_pending_31 rfl (Nat.le_of_ble_eq_true rfl) (Nat.le_of_ble_eq_true rfl) (⟨by rw [hs]; try rfl, by rw [hs]; try rfl⟩)
  · have hs : sp_pending S x = (-2, uN S 0 0) := if_neg (by rw [z_b0.mp c14]; decide)
    refine z_bipush (v := (-2)) F dX6_pending_17 rfl ?_
    exact z_iret F hr dX6_pending_19 rfl (Nat.le_of_ble_eq_true rfl) (Nat.le_of_ble_eq_true rfl) (⟨by rw [hs]; try rfl, by rw [hs]; try rfl⟩)
end
section
theorem tn_nI {j : Nat} (h : j < 2 ^ 31) : tn (nI j) = j := by unfold tn; rw [nI_toInt h]; rfl
theorem inZ_ex {x : Int32} {a b : Nat} (h : inZ x.toInt a b = true) : ∃ j : Nat, a ≤ j ∧ j ≤ b ∧ x = nI j := by
  obtain ⟨h1, h2, h3⟩ := inZ_nI (a := (a : Int)) (by omega) h
  exact ⟨tn x, by omega, by omega, h1⟩
theorem fnd_lt {f : Nat → Int32} {x : Int32} {n k : Nat} (h : fnd f x n = some k) : k < n := (fnd_some h).1

def sp_identifier (S : z_S) (id n s l : Int32) : Int32 × z_S :=
  if (inZ id.toInt 0 65535 && inZ n.toInt 1 8 && inZ s.toInt 1 3 && inZ l.toInt 0 3) = true then
    (match fnd (sAI S 9) id (sN S 8) with
    | some _ => (-3, uN S 0 0)
    | none => if sN S 8 = 40 then (-4, uN S 0 0) else (nI (sN S 8 + 1), s_add (uN S 0 0) id (tn n) (tn s) (tn l)))
  else (-2, uN S 0 0)

set_option maxRecDepth 100000 in
set_option maxHeartbeats 1000000 in
theorem c_X6_identifier {c : Nat → z_E} {S : z_S} {o : Nat → Int64} {d : z_H} (id n s l : Int32) (h40 : sN S 8 ≤ 40) : z_K yX6_identifier cX6_identifier 5 (some .int) 1 0 0 [.ref 11, .int id, .int n, .int s, .int l] (HP c (mfun S o) d) (fun v h' => v = some (.int (sp_identifier S id n s l).1) ∧ h' = (HP c (mfun ((sp_identifier S id n s l).2) o) d)) := by
  refine z_met vI_X6_identifier (Nat.le_of_ble_eq_true rfl) (fun G X F hr hnm => ?_)
  refine z_aload_n F dX6_identifier_0 rfl rfl ?_
  refine z_iconst (v := 0) F dX6_identifier_1 rfl ?_
  refine z_putf F vF_X6_83 vT_X6 vD_X6_0 dX6_identifier_2 mO_at (Nat.le_of_ble_eq_true rfl) rfl rfl (fun g2 => ?_)
  refine z_heap _ (ms_0 (v := 0)) ?_
  refine z_iload_n F dX6_identifier_5 rfl ?_
  refine z_i2l F dX6_identifier_6 ?_
  refine z_lconst (v := 0) F dX6_identifier_7 rfl ?_
  refine z_ldc2 F vK_X6_89 dX6_identifier_8 ?_
  refine z_callS F z_nwOK wL_good (c_isIn32 (A := 0) (B := 65535) id 0 65535 rfl rfl) vI_X6_isIn vM_X6_91 vS_X6_isIn rfl dX6_identifier_11 rfl rfl (Nat.le_of_ble_eq_true rfl) ⟨(Nat.le_of_ble_eq_true rfl), (Nat.le_of_ble_eq_true rfl), (Nat.le_of_ble_eq_true rfl), (Nat.le_of_ble_eq_true rfl)⟩ (fun v h1 hq => ?_)
  obtain ⟨rfl, rfl⟩ := hq
  refine z_if_eq (tgt := 54) F dX6_identifier_14 (by decide) (fun c14 => ?_) (fun c14 => ?_)
  · have hs : sp_identifier S id n s l = (-2, uN S 0 0) := if_neg (by rw [z_b0.mp c14]; simp)
    refine z_bipush (v := (-2)) F dX6_identifier_54 rfl ?_
    exact z_iret F hr dX6_identifier_56 rfl (Nat.le_of_ble_eq_true rfl) (Nat.le_of_ble_eq_true rfl) (⟨by rw [hs]; try rfl, by rw [hs]; try rfl⟩)
  · have hA := z_b1 c14
    refine z_iload_n F dX6_identifier_17 rfl ?_
    refine z_i2l F dX6_identifier_18 ?_
    refine z_lconst (v := 1) F dX6_identifier_19 rfl ?_
    refine z_ldc2 F vK_X6_95 dX6_identifier_20 ?_
    refine z_callS F z_nwOK wL_good (c_isIn32 (A := 1) (B := 8) n 1 8 rfl rfl) vI_X6_isIn vM_X6_91 vS_X6_isIn rfl dX6_identifier_23 rfl rfl (Nat.le_of_ble_eq_true rfl) ⟨(Nat.le_of_ble_eq_true rfl), (Nat.le_of_ble_eq_true rfl), (Nat.le_of_ble_eq_true rfl), (Nat.le_of_ble_eq_true rfl)⟩ (fun v h1 hq => ?_)
    obtain ⟨rfl, rfl⟩ := hq
    refine z_if_eq (tgt := 54) F dX6_identifier_26 (by decide) (fun c26 => ?_) (fun c26 => ?_)
    · have hs : sp_identifier S id n s l = (-2, uN S 0 0) := if_neg (by rw [z_b0.mp c26]; simp)
      refine z_bipush (v := (-2)) F dX6_identifier_54 rfl ?_
      exact z_iret F hr dX6_identifier_56 rfl (Nat.le_of_ble_eq_true rfl) (Nat.le_of_ble_eq_true rfl) (⟨by rw [hs]; try rfl, by rw [hs]; try rfl⟩)
    · have hB := z_b1 c26
      refine z_iload_n F dX6_identifier_29 rfl ?_
      refine z_i2l F dX6_identifier_30 ?_
      refine z_lconst (v := 1) F dX6_identifier_31 rfl ?_
      refine z_ldc2 F vK_X6_97 dX6_identifier_32 ?_
      refine z_callS F z_nwOK wL_good (c_isIn32 (A := 1) (B := 3) s 1 3 rfl rfl) vI_X6_isIn vM_X6_91 vS_X6_isIn rfl dX6_identifier_35 rfl rfl (Nat.le_of_ble_eq_true rfl) ⟨(Nat.le_of_ble_eq_true rfl), (Nat.le_of_ble_eq_true rfl), (Nat.le_of_ble_eq_true rfl), (Nat.le_of_ble_eq_true rfl)⟩ (fun v h1 hq => ?_)
      obtain ⟨rfl, rfl⟩ := hq
      refine z_if_eq (tgt := 54) F dX6_identifier_38 (by decide) (fun c38 => ?_) (fun c38 => ?_)
      · have hs : sp_identifier S id n s l = (-2, uN S 0 0) := if_neg (by rw [z_b0.mp c38]; simp)
        refine z_bipush (v := (-2)) F dX6_identifier_54 rfl ?_
        exact z_iret F hr dX6_identifier_56 rfl (Nat.le_of_ble_eq_true rfl) (Nat.le_of_ble_eq_true rfl) (⟨by rw [hs]; try rfl, by rw [hs]; try rfl⟩)
      · have hC := z_b1 c38
        refine z_iload F dX6_identifier_41 rfl ?_
        refine z_i2l F dX6_identifier_43 ?_
        refine z_lconst (v := 0) F dX6_identifier_44 rfl ?_
        refine z_ldc2 F vK_X6_97 dX6_identifier_45 ?_
        refine z_callS F z_nwOK wL_good (c_isIn32 (A := 0) (B := 3) l 0 3 rfl rfl) vI_X6_isIn vM_X6_91 vS_X6_isIn rfl dX6_identifier_48 rfl rfl (Nat.le_of_ble_eq_true rfl) ⟨(Nat.le_of_ble_eq_true rfl), (Nat.le_of_ble_eq_true rfl), (Nat.le_of_ble_eq_true rfl), (Nat.le_of_ble_eq_true rfl)⟩ (fun v h1 hq => ?_)
        obtain ⟨rfl, rfl⟩ := hq
        refine z_if_ne (tgt := 57) F dX6_identifier_51 (by decide) (fun c51 => ?_) (fun c51 => ?_)
        · have hD := z_b1 c51
          have hR : (inZ id.toInt 0 65535 && inZ n.toInt 1 8 && inZ s.toInt 1 3 && inZ l.toInt 0 3) = true := by rw [hA, hB, hC, hD]; rfl
          refine z_aload_n F dX6_identifier_57 rfl rfl ?_
          refine z_iload_n F dX6_identifier_58 rfl ?_
          refine z_callV F z_nwOK wL_good (c_X6_find (S := uN S 0 0) h40) mO_at rfl vI_X6_find vM_X6_99 vV_X6_find vL_X6_find rfl dX6_identifier_59 rfl rfl (Nat.le_of_ble_eq_true rfl) ⟨(Nat.le_of_ble_eq_true rfl), (Nat.le_of_ble_eq_true rfl), (Nat.le_of_ble_eq_true rfl), (Nat.le_of_ble_eq_true rfl)⟩ (fun v h1 hq => ?_)
          obtain ⟨rfl, rfl⟩ := hq
          cases hf : fnd (sAI S 9) id (sN S 8) with
          | none =>
            rw [show fnd (sAI (uN S 0 0) 9) id (sN (uN S 0 0) 8) = none from hf]
            refine z_if_lt (tgt := 68) F dX6_identifier_62 (by decide) (fun c62 => ?_) (fun c62 => absurd (by decide) c62)
            refine z_aload_n F dX6_identifier_68 rfl rfl ?_
            refine z_getf F vF_X6_86 dX6_identifier_69 mO_at rfl ?_
            refine z_bipush (v := 40) F dX6_identifier_72 rfl ?_
            refine z_icmp_ne (tgt := 82) F dX6_identifier_74 (by decide) (fun c74 => ?_) (fun c74 => ?_)
            · have e40 : ¬ sN S 8 = 40 := fun e => c74 (by show nI (sN S 8) = nI 40; rw [e])
              have hs : sp_identifier S id n s l = (nI (sN S 8 + 1), s_add (uN S 0 0) id (tn n) (tn s) (tn l)) := by unfold sp_identifier; rw [if_pos hR, hf]; exact if_neg e40
              obtain ⟨jn, -, hn2, rfl⟩ := inZ_ex (a := 1) (b := 8) hB
              obtain ⟨js, -, hs2, rfl⟩ := inZ_ex (a := 1) (b := 3) hC
              obtain ⟨jl, -, hl2, rfl⟩ := inZ_ex (a := 0) (b := 3) hD
              rw [tn_nI (by omega), tn_nI (by omega), tn_nI (by omega)] at hs
              refine z_aload_n F dX6_identifier_82 rfl rfl ?_
              refine z_iload_n F dX6_identifier_83 rfl ?_
              refine z_iload_n F dX6_identifier_84 rfl ?_
              refine z_iload_n F dX6_identifier_85 rfl ?_
              refine z_iload F dX6_identifier_86 rfl ?_
              refine z_callV F z_nwOK wL_good (c_X6_add (S := uN S 0 0) (show sN S 8 < 40 by omega)) mO_at rfl vI_X6_add vM_X6_103 vV_X6_add vL_X6_add rfl dX6_identifier_88 rfl rfl (Nat.le_of_ble_eq_true rfl) ⟨(Nat.le_of_ble_eq_true rfl), (Nat.le_of_ble_eq_true rfl), (Nat.le_of_ble_eq_true rfl), (Nat.le_of_ble_eq_true rfl)⟩ (fun v h1 hq => ?_)
              obtain ⟨rfl, rfl⟩ := hq
              exact z_iret F hr dX6_identifier_91 rfl (Nat.le_of_ble_eq_true rfl) (Nat.le_of_ble_eq_true rfl) (⟨by rw [hs]; try rfl, by rw [hs]; try rfl⟩)
            · have e40 : sN S 8 = 40 := (nI_eq (by omega) (by decide)).mp c74
              have hs : sp_identifier S id n s l = (-4, uN S 0 0) := by unfold sp_identifier; rw [if_pos hR, hf]; exact if_pos e40
              refine z_bipush (v := (-4)) F dX6_identifier_77 rfl ?_
              refine z_goto (tgt := 91) F dX6_identifier_79 (by decide) ?_
              exact z_iret F hr dX6_identifier_91 rfl (Nat.le_of_ble_eq_true rfl) (Nat.le_of_ble_eq_true rfl) (⟨by rw [hs]; try rfl, by rw [hs]; try rfl⟩)
          | some k =>
            rw [show fnd (sAI (uN S 0 0) 9) id (sN (uN S 0 0) 8) = some k from hf]
            have hk := fnd_lt hf
            have hs : sp_identifier S id n s l = (-3, uN S 0 0) := by unfold sp_identifier; rw [if_pos hR, hf]
            refine z_if_lt (tgt := 68) F dX6_identifier_62 (by decide) (fun c62 => absurd c62 (nI_pos (by omega))) (fun c62 => ?_)
            refine z_bipush (v := (-3)) F dX6_identifier_65 rfl ?_
            exact z_iret F hr dX6_identifier_67 rfl (Nat.le_of_ble_eq_true rfl) (Nat.le_of_ble_eq_true rfl) (⟨by rw [hs]; try rfl, by rw [hs]; try rfl⟩)
        · have hs : sp_identifier S id n s l = (-2, uN S 0 0) := if_neg (by rw [z_b0.mp c51]; simp)
          refine z_bipush (v := (-2)) F dX6_identifier_54 rfl ?_
          exact z_iret F hr dX6_identifier_56 rfl (Nat.le_of_ble_eq_true rfl) (Nat.le_of_ble_eq_true rfl) (⟨by rw [hs]; try rfl, by rw [hs]; try rfl⟩)

def sp_condition (S : z_S) (k : Int32) (b : Bool) : Int32 × z_S :=
  if k = 0 then (z_b (b && sB S 6), uB (uN S 0 0) 5 b) else if k = 1 then (z_b (sB S 5 && b), uB (uN S 0 0) 6 b) else (-1, uN S 0 0)

set_option maxRecDepth 100000 in
set_option maxHeartbeats 1000000 in
theorem c_X6_condition {c : Nat → z_E} {S : z_S} {o : Nat → Int64} {d : z_H} (k : Int32) (b : Bool) : z_K yX6_condition cX6_condition 3 (some .int) 1 0 0 [.ref 11, .int k, .int (z_b b)] (HP c (mfun S o) d) (fun v h' => v = some (.int (sp_condition S k b).1) ∧ h' = (HP c (mfun ((sp_condition S k b).2) o) d)) := by
  refine z_met vI_X6_condition (Nat.le_of_ble_eq_true rfl) (fun G X F hr hnm => ?_)
  refine z_aload_n F dX6_condition_0 rfl rfl ?_
  refine z_iconst (v := 0) F dX6_condition_1 rfl ?_
  refine z_putf F vF_X6_83 vT_X6 vD_X6_0 dX6_condition_2 mO_at (Nat.le_of_ble_eq_true rfl) rfl rfl (fun g2 => ?_)
  refine z_heap _ (ms_0 (v := 0)) ?_
  refine z_iload_n F dX6_condition_5 rfl ?_
  refine z_i2l F dX6_condition_6 ?_
  refine z_lconst (v := 0) F dX6_condition_7 rfl ?_
  refine z_lconst (v := 1) F dX6_condition_8 rfl ?_
  refine z_callS F z_nwOK wL_good (c_isIn32 (A := 0) (B := 1) k 0 1 rfl rfl) vI_X6_isIn vM_X6_91 vS_X6_isIn rfl dX6_condition_9 rfl rfl (Nat.le_of_ble_eq_true rfl) ⟨(Nat.le_of_ble_eq_true rfl), (Nat.le_of_ble_eq_true rfl), (Nat.le_of_ble_eq_true rfl), (Nat.le_of_ble_eq_true rfl)⟩ (fun v h1 hq => ?_)
  obtain ⟨rfl, rfl⟩ := hq
  refine z_if_ne (tgt := 17) F dX6_condition_12 (by decide) (fun c12 => ?_) (fun c12 => ?_)
  · have hA := z_b1 c12
    refine z_iload_n F dX6_condition_17 rfl ?_
    refine z_if_ne (tgt := 29) F dX6_condition_18 (by decide) (fun c18 => ?_) (fun c18 => ?_)
    · have h1 : k = 1 := by obtain ⟨j, -, h2, rfl⟩ := inZ_ex (a := 0) (b := 1) hA; have : ¬ j = 0 := fun e => c18 (by rw [e]; rfl); rw [show j = 1 by omega]; rfl
      have hs : sp_condition S k b = (z_b (sB S 5 && b), uB (uN S 0 0) 6 b) := by unfold sp_condition; rw [if_neg c18, if_pos h1]
      refine z_aload_n F dX6_condition_29 rfl rfl ?_
      refine z_iload_n F dX6_condition_30 rfl ?_
      refine z_putf F vF_X6_17 vT_X6 vD_X6_6 dX6_condition_31 mO_at (Nat.le_of_ble_eq_true rfl) (z_bnar b) (z_bfit b) (fun g31 => ?_)
      refine z_heap _ (ms_6) ?_
      refine z_aload_n F dX6_condition_34 rfl rfl ?_
      refine z_getf F vF_X6_13 dX6_condition_35 mO_at rfl ?_
      refine z_if_eq (tgt := 52) F dX6_condition_38 (by decide) (fun c38 => ?_) (fun c38 => ?_)
      · have hz : sB S 5 = false := z_b0.mp c38
        have hv : z_b (sB S 5 && b) = 0 := by rw [hz]; rfl
        refine z_iconst (v := 0) F dX6_condition_52 rfl ?_
        exact z_iret F hr dX6_condition_53 rfl (Nat.le_of_ble_eq_true rfl) (Nat.le_of_ble_eq_true rfl) (⟨by rw [hs, hv], by rw [hs]; try rfl⟩)
      · have hz : sB S 5 = true := z_b1 c38
        refine z_aload_n F dX6_condition_41 rfl rfl ?_
        refine z_getf F vF_X6_17 dX6_condition_42 mO_at rfl ?_
        refine z_if_eq (tgt := 52) F dX6_condition_45 (by decide) (fun c45 => ?_) (fun c45 => ?_)
        · have hy : b = false := z_b0.mp c45
          have hv : z_b (sB S 5 && b) = 0 := by rw [hy]; simp; rfl
          refine z_iconst (v := 0) F dX6_condition_52 rfl ?_
          exact z_iret F hr dX6_condition_53 rfl (Nat.le_of_ble_eq_true rfl) (Nat.le_of_ble_eq_true rfl) (⟨by rw [hs, hv], by rw [hs]; try rfl⟩)
        · have hy : b = true := z_b1 c45
          have hv : z_b (sB S 5 && b) = 1 := by rw [hz, hy]; rfl
          refine z_iconst (v := 1) F dX6_condition_48 rfl ?_
          refine z_goto (tgt := 53) F dX6_condition_49 (by decide) ?_
          exact z_iret F hr dX6_condition_53 rfl (Nat.le_of_ble_eq_true rfl) (Nat.le_of_ble_eq_true rfl) (⟨by rw [hs, hv], by rw [hs]; try rfl⟩)
    · have hs : sp_condition S k b = (z_b (b && sB S 6), uB (uN S 0 0) 5 b) := if_pos c18
      refine z_aload_n F dX6_condition_21 rfl rfl ?_
      refine z_iload_n F dX6_condition_22 rfl ?_
      refine z_putf F vF_X6_13 vT_X6 vD_X6_5 dX6_condition_23 mO_at (Nat.le_of_ble_eq_true rfl) (z_bnar b) (z_bfit b) (fun g23 => ?_)
      refine z_heap _ (ms_5) ?_
      refine z_goto (tgt := 34) F dX6_condition_26 (by decide) ?_
      refine z_aload_n F dX6_condition_34 rfl rfl ?_
      refine z_getf F vF_X6_13 dX6_condition_35 mO_at rfl ?_
      refine z_if_eq (tgt := 52) F dX6_condition_38 (by decide) (fun c38 => ?_) (fun c38 => ?_)
      · have hz : b = false := z_b0.mp c38
        have hv : z_b (b && sB S 6) = 0 := by rw [hz]; rfl
        refine z_iconst (v := 0) F dX6_condition_52 rfl ?_
        exact z_iret F hr dX6_condition_53 rfl (Nat.le_of_ble_eq_true rfl) (Nat.le_of_ble_eq_true rfl) (⟨by rw [hs, hv], by rw [hs]; try rfl⟩)
      · have hz : b = true := z_b1 c38
        refine z_aload_n F dX6_condition_41 rfl rfl ?_
        refine z_getf F vF_X6_17 dX6_condition_42 mO_at rfl ?_
        refine z_if_eq (tgt := 52) F dX6_condition_45 (by decide) (fun c45 => ?_) (fun c45 => ?_)
        · have hy : sB S 6 = false := z_b0.mp c45
          have hv : z_b (b && sB S 6) = 0 := by rw [hy]; simp; rfl
          refine z_iconst (v := 0) F dX6_condition_52 rfl ?_
          exact z_iret F hr dX6_condition_53 rfl (Nat.le_of_ble_eq_true rfl) (Nat.le_of_ble_eq_true rfl) (⟨by rw [hs, hv], by rw [hs]; try rfl⟩)
        · have hy : sB S 6 = true := z_b1 c45
          have hv : z_b (b && sB S 6) = 1 := by rw [hz, hy]; rfl
          refine z_iconst (v := 1) F dX6_condition_48 rfl ?_
          refine z_goto (tgt := 53) F dX6_condition_49 (by decide) ?_
          exact z_iret F hr dX6_condition_53 rfl (Nat.le_of_ble_eq_true rfl) (Nat.le_of_ble_eq_true rfl) (⟨by rw [hs, hv], by rw [hs]; try rfl⟩)
  · have hA := z_b0.mp c12
    have hs : sp_condition S k b = (-1, uN S 0 0) := by unfold sp_condition; rw [if_neg (by intro e; rw [e] at hA; exact absurd hA (by decide)), if_neg (by intro e; rw [e] at hA; exact absurd hA (by decide))]
    refine z_iconst (v := (-1)) F dX6_condition_15 rfl ?_
    exact z_iret F hr dX6_condition_16 rfl (Nat.le_of_ble_eq_true rfl) (Nat.le_of_ble_eq_true rfl) (⟨by rw [hs]; try rfl, by rw [hs]; try rfl⟩)

def sp_control (S : z_S) (id k : Int32) (v : Int64) : Int32 × z_S :=
  match fnd (sAI S 9) id (sN S 8) with
  | none => (-1, uN S 0 0)
  | some i => if inZ k.toInt 0 1 = true then
      (if sAB S 17 i = true then (-3, uN S 0 0) else if k = 0 then (1, uAL (uN S 0 0) 13 (va_up (sAL S 13) i v)) else (1, uAB (uN S 0 0) 16 (va_up (sAB S 16) i (decide (v = 0)))))
    else (-2, uN S 0 0)

set_option maxRecDepth 100000 in
set_option maxHeartbeats 1000000 in
theorem c_X6_control {c : Nat → z_E} {S : z_S} {o : Nat → Int64} {d : z_H} (id k : Int32) (w : Int64) (h40 : sN S 8 ≤ 40) : z_K yX6_control cX6_control 6 (some .int) 1 0 0 [.ref 11, .int id,   .int k, .long w] (HP c (mfun S o) d) (fun v h' => v = some (.int (sp_control S id k w).1) ∧ h' = (HP c (mfun ((sp_control S id k w).2) o) d)) := by
  refine z_met vI_X6_control (Nat.le_of_ble_eq_true rfl) (fun G X F hr hnm => ?_)
  refine z_aload_n F dX6_control_0 rfl rfl ?_
  refine z_iconst (v := 0) F dX6_control_1 rfl ?_
  refine z_putf F vF_X6_83 vT_X6 vD_X6_0 dX6_control_2 mO_at (Nat.le_of_ble_eq_true rfl) rfl rfl (fun g2 => ?_)
  refine z_heap _ (ms_0 (v := 0)) ?_
  refine z_aload_n F dX6_control_5 rfl rfl ?_
  refine z_iload_n F dX6_control_6 rfl ?_
  refine z_callV F z_nwOK wL_good (c_X6_find (S := uN S 0 0) h40) mO_at rfl vI_X6_find vM_X6_99 vV_X6_find vL_X6_find rfl dX6_control_7 rfl rfl (Nat.le_of_ble_eq_true rfl) ⟨(Nat.le_of_ble_eq_true rfl), (Nat.le_of_ble_eq_true rfl), (Nat.le_of_ble_eq_true rfl), (Nat.le_of_ble_eq_true rfl)⟩ (fun v h1 hq => ?_)
  obtain ⟨rfl, rfl⟩ := hq
  cases hf : fnd (sAI S 9) id (sN S 8) with
  | none =>
    rw [show fnd (sAI (uN S 0 0) 9) id (sN (uN S 0 0) 8) = none from hf]
    have hs : sp_control S id k w = (-1, uN S 0 0) := by unfold sp_control; rw [hf]
    refine z_istore F dX6_control_10 (Nat.le_of_ble_eq_true rfl) ?_
    refine z_iload F dX6_control_12 rfl ?_
    refine z_if_ge (tgt := 19) F dX6_control_14 (by decide) (fun c14 => absurd c14 (by decide)) (fun c14 => ?_)
    refine z_iconst (v := (-1)) F dX6_control_17 rfl ?_
    exact z_iret F hr dX6_control_18 rfl (Nat.le_of_ble_eq_true rfl) (Nat.le_of_ble_eq_true rfl) (⟨by rw [hs]; try rfl, by rw [hs]; try rfl⟩)
  | some i =>
    rw [show fnd (sAI (uN S 0 0) 9) id (sN (uN S 0 0) 8) = some i from hf]
    have hk := fnd_lt hf
    refine z_istore F dX6_control_10 (Nat.le_of_ble_eq_true rfl) ?_
    refine z_iload F dX6_control_12 rfl ?_
    refine z_if_ge (tgt := 19) F dX6_control_14 (by decide) (fun c14 => ?_) (fun c14 => absurd (nI_pos' (by omega)) c14)
    refine z_iload_n F dX6_control_19 rfl ?_
    refine z_i2l F dX6_control_20 ?_
    refine z_lconst (v := 0) F dX6_control_21 rfl ?_
    refine z_lconst (v := 1) F dX6_control_22 rfl ?_
    refine z_callS F z_nwOK wL_good (c_isIn32 (A := 0) (B := 1) k 0 1 rfl rfl) vI_X6_isIn vM_X6_91 vS_X6_isIn rfl dX6_control_23 rfl rfl (Nat.le_of_ble_eq_true rfl) ⟨(Nat.le_of_ble_eq_true rfl), (Nat.le_of_ble_eq_true rfl), (Nat.le_of_ble_eq_true rfl), (Nat.le_of_ble_eq_true rfl)⟩ (fun v h1 hq => ?_)
    obtain ⟨rfl, rfl⟩ := hq
    refine z_if_ne (tgt := 32) F dX6_control_26 (by decide) (fun c26 => ?_) (fun c26 => ?_)
    · have hA := z_b1 c26
      refine z_aload_n F dX6_control_32 rfl rfl ?_
      refine z_getf F vF_X6_47 dX6_control_33 mO_at rfl ?_
      refine z_iload F dX6_control_36 rfl ?_
      refine z_zald F dX6_control_38 mA_17 rfl rfl (show i < 40 by omega) (Nat.le_of_ble_eq_true rfl) ?_
      refine z_if_eq (tgt := 45) F dX6_control_39 (by decide) (fun c39 => ?_) (fun c39 => ?_)
      · have hJ : sAB S 17 i = false := z_b0.mp c39
        refine z_iload_n F dX6_control_45 rfl ?_
        refine z_if_ne (tgt := 60) F dX6_control_46 (by decide) (fun c46 => ?_) (fun c46 => ?_)
        · have hs : sp_control S id k w = (1, uAB (uN S 0 0) 16 (va_up (sAB S 16) i (decide (w = 0)))) := by unfold sp_control; rw [hf]; show (if _ then _ else _) = _; rw [if_pos hA, if_neg (by rw [hJ]; decide), if_neg c46]
          refine z_aload_n F dX6_control_60 rfl rfl ?_
          refine z_getf F vF_X6_44 dX6_control_61 mO_at rfl ?_
          refine z_iload F dX6_control_64 rfl ?_
          refine z_lload_n F dX6_control_66 rfl ?_
          refine z_lconst (v := 0) F dX6_control_67 rfl ?_
          refine z_lcmp F dX6_control_68 ?_
          refine z_if_ne (tgt := 76) F dX6_control_69 (by decide) (fun c69 => ?_) (fun c69 => ?_)
          · rw [decide_eq_false (fun e => c69 ((lg_cmp_eq w 0).mpr e))] at hs
            refine z_iconst (v := 0) F dX6_control_76 rfl ?_
            refine z_zast F dX6_control_77 mA_16 rfl rfl (show i < 40 by omega) (Nat.le_of_ble_eq_true rfl) ?_
            refine z_heap _ (ma_16 (v := false)) ?_
            refine z_iconst (v := 1) F dX6_control_78 rfl ?_
            exact z_iret F hr dX6_control_79 rfl (Nat.le_of_ble_eq_true rfl) (Nat.le_of_ble_eq_true rfl) (⟨by rw [hs]; try rfl, by rw [hs]; try rfl⟩)
          · rw [decide_eq_true ((lg_cmp_eq w 0).mp c69)] at hs
            refine z_iconst (v := 1) F dX6_control_72 rfl ?_
            refine z_goto (tgt := 77) F dX6_control_73 (by decide) ?_
            refine z_zast F dX6_control_77 mA_16 rfl rfl (show i < 40 by omega) (Nat.le_of_ble_eq_true rfl) ?_
            refine z_heap _ (ma_16 (v := true)) ?_
            refine z_iconst (v := 1) F dX6_control_78 rfl ?_
            exact z_iret F hr dX6_control_79 rfl (Nat.le_of_ble_eq_true rfl) (Nat.le_of_ble_eq_true rfl) (⟨by rw [hs]; try rfl, by rw [hs]; try rfl⟩)
        · have hs : sp_control S id k w = (1, uAL (uN S 0 0) 13 (va_up (sAL S 13) i w)) := by unfold sp_control; rw [hf]; show (if _ then _ else _) = _; rw [if_pos hA, if_neg (by rw [hJ]; decide), if_pos c46]
          refine z_aload_n F dX6_control_49 rfl rfl ?_
          refine z_getf F vF_X6_33 dX6_control_50 mO_at rfl ?_
          refine z_iload F dX6_control_53 rfl ?_
          refine z_lload_n F dX6_control_55 rfl ?_
          refine z_last F dX6_control_56 mA_13 rfl rfl (show i < 40 by omega) (Nat.le_of_ble_eq_true rfl) ?_
          refine z_heap _ (ma_13) ?_
          refine z_goto (tgt := 78) F dX6_control_57 (by decide) ?_
          refine z_iconst (v := 1) F dX6_control_78 rfl ?_
          exact z_iret F hr dX6_control_79 rfl (Nat.le_of_ble_eq_true rfl) (Nat.le_of_ble_eq_true rfl) (⟨by rw [hs]; try rfl, by rw [hs]; try rfl⟩)
      · have hJ : sAB S 17 i = true := z_b1 c39
        have hs : sp_control S id k w = (-3, uN S 0 0) := by unfold sp_control; rw [hf]; show (if _ then _ else _) = _; rw [if_pos hA, if_pos hJ]
        refine z_bipush (v := (-3)) F dX6_control_42 rfl ?_
        exact z_iret F hr dX6_control_44 rfl (Nat.le_of_ble_eq_true rfl) (Nat.le_of_ble_eq_true rfl) (⟨by rw [hs]; try rfl, by rw [hs]; try rfl⟩)
    · have hs : sp_control S id k w = (-2, uN S 0 0) := by unfold sp_control; rw [hf]; exact if_neg (by rw [z_b0.mp c26]; decide)
      refine z_bipush (v := (-2)) F dX6_control_29 rfl ?_
      exact z_iret F hr dX6_control_31 rfl (Nat.le_of_ble_eq_true rfl) (Nat.le_of_ble_eq_true rfl) (⟨by rw [hs]; try rfl, by rw [hs]; try rfl⟩)

/-- octet p of identifier k -/
def octS (S : z_S) (k p : Nat) : Nat :=
  let f := if sAB S 17 k then sAN S 18 (8 * k + p) else k
  let a := if sAB S 17 k then sAN S 19 (8 * k + p) else p
  octV (if sAB S 14 f then sAL S 15 f else sAL S 13 f) (8 * (sAN S 10 f - 1 - a))
/-- what the parts of a put together one are -/
def partOK (S : z_S) (k p : Nat) : Prop := sAN S 18 (8 * k + p) < sN S 8 ∧ sAB S 17 (sAN S 18 (8 * k + p)) = false ∧ sAN S 19 (8 * k + p) < sAN S 10 (sAN S 18 (8 * k + p))

set_option maxRecDepth 100000 in
set_option maxHeartbeats 1000000 in
theorem c_X6_octet_n {c : Nat → z_E} {S : z_S} {o : Nat → Int64} {d : z_H} {k p : Nat} (h40 : sN S 8 ≤ 40) (hk : k < sN S 8) (hj : sAB S 17 k = false) (hp : p < sAN S 10 k) (hl : sAN S 10 k ≤ 8) : z_K yX6_octet cX6_octet 7 (some .int) 0 0 0 [.ref 11, .int (nI k), .int (nI p)] (HP c (mfun S o) d) (fun v h' => v = some (.int (nI (octS S k p))) ∧ h' = (HP c (mfun S o) d)) := by
  refine z_met vI_X6_octet (Nat.le_of_ble_eq_true rfl) (fun G X F hr hnm => ?_)
  refine z_aload_n F dX6_octet_0 rfl rfl ?_
  refine z_getf F vF_X6_47 dX6_octet_1 mO_at rfl ?_
  refine z_iload_n F dX6_octet_4 rfl ?_
  refine z_zald F dX6_octet_5 mA_17 rfl rfl (show k < 40 by omega) (Nat.le_of_ble_eq_true rfl) ?_
  refine z_if_eq (tgt := 23) F dX6_octet_6 (by decide) (fun c6 => ?_) (fun c6 => absurd (by rw [hj]; rfl) c6)
  refine z_iload_n F dX6_octet_23 rfl ?_
  refine z_istore_n F dX6_octet_24 (Nat.le_of_ble_eq_true rfl) ?_
  refine z_aload_n F dX6_octet_25 rfl rfl ?_
  refine z_getf F vF_X6_47 dX6_octet_26 mO_at rfl ?_
  refine z_iload_n F dX6_octet_29 rfl ?_
  refine z_zald F dX6_octet_30 mA_17 rfl rfl (show k < 40 by omega) (Nat.le_of_ble_eq_true rfl) ?_
  refine z_if_eq (tgt := 48) F dX6_octet_31 (by decide) (fun c31 => ?_) (fun c31 => absurd (by rw [hj]; rfl) c31)
  refine z_iload_n F dX6_octet_48 rfl ?_
  refine z_istore F dX6_octet_49 (Nat.le_of_ble_eq_true rfl) ?_
  refine z_aload_n F dX6_octet_51 rfl rfl ?_
  refine z_getf F vF_X6_37 dX6_octet_52 mO_at rfl ?_
  refine z_iload_n F dX6_octet_55 rfl ?_
  refine z_zald F dX6_octet_56 mA_14 rfl rfl (show k < 40 by omega) (Nat.le_of_ble_eq_true rfl) ?_
  refine z_if_eq (tgt := 69) F dX6_octet_57 (by decide) (fun c57 => ?_) (fun c57 => ?_)
  · have hc : sAB S 14 (k) = false := z_b0.mp c57
    have hs : octS S k p = octV (sAL S 13 (k)) (8 * (sAN S 10 (k) - 1 - p)) := by unfold octS; simp [hj, hc]
    refine z_aload_n F dX6_octet_69 rfl rfl ?_
    refine z_getf F vF_X6_33 dX6_octet_70 mO_at rfl ?_
    refine z_iload_n F dX6_octet_73 rfl ?_
    refine z_lald F dX6_octet_74 mA_13 rfl rfl (show k < 40 by omega) (Nat.le_of_ble_eq_true rfl) ?_
    refine z_lstore F dX6_octet_75 (Nat.le_of_ble_eq_true rfl) ?_
    refine z_lload F dX6_octet_77 rfl ?_
    refine z_bipush (v := 8) F dX6_octet_79 rfl ?_
    refine z_aload_n F dX6_octet_81 rfl rfl ?_
    refine z_getf F vF_X6_24 dX6_octet_82 mO_at rfl ?_
    refine z_iload_n F dX6_octet_85 rfl ?_
    refine z_iald F dX6_octet_86 mA_10 rfl rfl (show k < 40 by omega) (Nat.le_of_ble_eq_true rfl) ?_
    refine z_iconst (v := 1) F dX6_octet_87 rfl ?_
    refine z_isub F dX6_octet_88 ?_
    refine z_iload F dX6_octet_89 rfl ?_
    refine z_isub F dX6_octet_91 ?_
    refine z_imul F dX6_octet_92 ?_
    rw [z_sh (show p < sAN S 10 (k) by omega)]
    refine z_lshr F dX6_octet_93 ?_
    refine z_l2i F dX6_octet_94 ?_
    refine z_sipush (v := 255) F dX6_octet_95 rfl ?_
    refine z_iand F dX6_octet_98 ?_
    rw [z_shr8 _ (by omega)]
    exact z_iret F hr dX6_octet_99 rfl (Nat.le_of_ble_eq_true rfl) (Nat.le_of_ble_eq_true rfl) (⟨by rw [hs], rfl⟩)
  · have hc : sAB S 14 (k) = true := z_b1 c57
    have hs : octS S k p = octV (sAL S 15 (k)) (8 * (sAN S 10 (k) - 1 - p)) := by unfold octS; simp [hj, hc]
    refine z_aload_n F dX6_octet_60 rfl rfl ?_
    refine z_getf F vF_X6_41 dX6_octet_61 mO_at rfl ?_
    refine z_iload_n F dX6_octet_64 rfl ?_
    refine z_lald F dX6_octet_65 mA_15 rfl rfl (show k < 40 by omega) (Nat.le_of_ble_eq_true rfl) ?_
    refine z_goto (tgt := 75) F dX6_octet_66 (by decide) ?_
    refine z_lstore F dX6_octet_75 (Nat.le_of_ble_eq_true rfl) ?_
    refine z_lload F dX6_octet_77 rfl ?_
    refine z_bipush (v := 8) F dX6_octet_79 rfl ?_
    refine z_aload_n F dX6_octet_81 rfl rfl ?_
    refine z_getf F vF_X6_24 dX6_octet_82 mO_at rfl ?_
    refine z_iload_n F dX6_octet_85 rfl ?_
    refine z_iald F dX6_octet_86 mA_10 rfl rfl (show k < 40 by omega) (Nat.le_of_ble_eq_true rfl) ?_
    refine z_iconst (v := 1) F dX6_octet_87 rfl ?_
    refine z_isub F dX6_octet_88 ?_
    refine z_iload F dX6_octet_89 rfl ?_
    refine z_isub F dX6_octet_91 ?_
    refine z_imul F dX6_octet_92 ?_
    rw [z_sh (show p < sAN S 10 (k) by omega)]
    refine z_lshr F dX6_octet_93 ?_
    refine z_l2i F dX6_octet_94 ?_
    refine z_sipush (v := 255) F dX6_octet_95 rfl ?_
    refine z_iand F dX6_octet_98 ?_
    rw [z_shr8 _ (by omega)]
    exact z_iret F hr dX6_octet_99 rfl (Nat.le_of_ble_eq_true rfl) (Nat.le_of_ble_eq_true rfl) (⟨by rw [hs], rfl⟩)

set_option maxRecDepth 100000 in
set_option maxHeartbeats 1000000 in
theorem c_X6_octet_y {c : Nat → z_E} {S : z_S} {o : Nat → Int64} {d : z_H} {k p : Nat} (h40 : sN S 8 ≤ 40) (hk : k < sN S 8) (hj : sAB S 17 k = true) (hp : p < 8) (h1 : sAN S 18 (8 * k + p) < sN S 8) (h2 : sAN S 19 (8 * k + p) < sAN S 10 (sAN S 18 (8 * k + p))) (h3 : sAN S 10 (sAN S 18 (8 * k + p)) ≤ 8) : z_K yX6_octet cX6_octet 7 (some .int) 0 0 0 [.ref 11, .int (nI k), .int (nI p)] (HP c (mfun S o) d) (fun v h' => v = some (.int (nI (octS S k p))) ∧ h' = (HP c (mfun S o) d)) := by
  refine z_met vI_X6_octet (Nat.le_of_ble_eq_true rfl) (fun G X F hr hnm => ?_)
  refine z_aload_n F dX6_octet_0 rfl rfl ?_
  refine z_getf F vF_X6_47 dX6_octet_1 mO_at rfl ?_
  refine z_iload_n F dX6_octet_4 rfl ?_
  refine z_zald F dX6_octet_5 mA_17 rfl rfl (show k < 40 by omega) (Nat.le_of_ble_eq_true rfl) ?_
  refine z_if_eq (tgt := 23) F dX6_octet_6 (by decide) (fun c6 => absurd (z_b0.mp c6) (by rw [hj]; decide)) (fun c6 => ?_)
  refine z_aload_n F dX6_octet_9 rfl rfl ?_
  refine z_getf F vF_X6_50 dX6_octet_10 mO_at rfl ?_
  refine z_bipush (v := 8) F dX6_octet_13 rfl ?_
  refine z_iload_n F dX6_octet_15 rfl ?_
  refine z_imul F dX6_octet_16 ?_
  refine z_iload_n F dX6_octet_17 rfl ?_
  refine z_iadd F dX6_octet_18 ?_
  rw [show (8 : Int32) * nI k + nI p = nI (8 * k + p) from by rw [show (8 : Int32) = nI 8 from rfl, pk_mul, nI_add]]
  refine z_iald F dX6_octet_19 mA_18 rfl rfl (show 8 * k + p < 320 by omega) (Nat.le_of_ble_eq_true rfl) ?_
  refine z_goto (tgt := 24) F dX6_octet_20 (by decide) ?_
  refine z_istore_n F dX6_octet_24 (Nat.le_of_ble_eq_true rfl) ?_
  refine z_aload_n F dX6_octet_25 rfl rfl ?_
  refine z_getf F vF_X6_47 dX6_octet_26 mO_at rfl ?_
  refine z_iload_n F dX6_octet_29 rfl ?_
  refine z_zald F dX6_octet_30 mA_17 rfl rfl (show k < 40 by omega) (Nat.le_of_ble_eq_true rfl) ?_
  refine z_if_eq (tgt := 48) F dX6_octet_31 (by decide) (fun c31 => absurd (z_b0.mp c31) (by rw [hj]; decide)) (fun c31 => ?_)
  refine z_aload_n F dX6_octet_34 rfl rfl ?_
  refine z_getf F vF_X6_53 dX6_octet_35 mO_at rfl ?_
  refine z_bipush (v := 8) F dX6_octet_38 rfl ?_
  refine z_iload_n F dX6_octet_40 rfl ?_
  refine z_imul F dX6_octet_41 ?_
  refine z_iload_n F dX6_octet_42 rfl ?_
  refine z_iadd F dX6_octet_43 ?_
  rw [show (8 : Int32) * nI k + nI p = nI (8 * k + p) from by rw [show (8 : Int32) = nI 8 from rfl, pk_mul, nI_add]]
  refine z_iald F dX6_octet_44 mA_19 rfl rfl (show 8 * k + p < 320 by omega) (Nat.le_of_ble_eq_true rfl) ?_
  refine z_goto (tgt := 49) F dX6_octet_45 (by decide) ?_
  refine z_istore F dX6_octet_49 (Nat.le_of_ble_eq_true rfl) ?_
  refine z_aload_n F dX6_octet_51 rfl rfl ?_
  refine z_getf F vF_X6_37 dX6_octet_52 mO_at rfl ?_
  refine z_iload_n F dX6_octet_55 rfl ?_
  refine z_zald F dX6_octet_56 mA_14 rfl rfl (show sAN S 18 (8 * k + p) < 40 by omega) (Nat.le_of_ble_eq_true rfl) ?_
  refine z_if_eq (tgt := 69) F dX6_octet_57 (by decide) (fun c57 => ?_) (fun c57 => ?_)
  · have hc : sAB S 14 (sAN S 18 (8 * k + p)) = false := z_b0.mp c57
    have hs : octS S k p = octV (sAL S 13 (sAN S 18 (8 * k + p))) (8 * (sAN S 10 (sAN S 18 (8 * k + p)) - 1 - sAN S 19 (8 * k + p))) := by unfold octS; simp [hj, hc]
    refine z_aload_n F dX6_octet_69 rfl rfl ?_
    refine z_getf F vF_X6_33 dX6_octet_70 mO_at rfl ?_
    refine z_iload_n F dX6_octet_73 rfl ?_
    refine z_lald F dX6_octet_74 mA_13 rfl rfl (show sAN S 18 (8 * k + p) < 40 by omega) (Nat.le_of_ble_eq_true rfl) ?_
    refine z_lstore F dX6_octet_75 (Nat.le_of_ble_eq_true rfl) ?_
    refine z_lload F dX6_octet_77 rfl ?_
    refine z_bipush (v := 8) F dX6_octet_79 rfl ?_
    refine z_aload_n F dX6_octet_81 rfl rfl ?_
    refine z_getf F vF_X6_24 dX6_octet_82 mO_at rfl ?_
    refine z_iload_n F dX6_octet_85 rfl ?_
    refine z_iald F dX6_octet_86 mA_10 rfl rfl (show sAN S 18 (8 * k + p) < 40 by omega) (Nat.le_of_ble_eq_true rfl) ?_
    refine z_iconst (v := 1) F dX6_octet_87 rfl ?_
    refine z_isub F dX6_octet_88 ?_
    refine z_iload F dX6_octet_89 rfl ?_
    refine z_isub F dX6_octet_91 ?_
    refine z_imul F dX6_octet_92 ?_
    rw [z_sh (show sAN S 19 (8 * k + p) < sAN S 10 (sAN S 18 (8 * k + p)) by omega)]
    refine z_lshr F dX6_octet_93 ?_
    refine z_l2i F dX6_octet_94 ?_
    refine z_sipush (v := 255) F dX6_octet_95 rfl ?_
    refine z_iand F dX6_octet_98 ?_
    rw [z_shr8 _ (by omega)]
    exact z_iret F hr dX6_octet_99 rfl (Nat.le_of_ble_eq_true rfl) (Nat.le_of_ble_eq_true rfl) (⟨by rw [hs], rfl⟩)
  · have hc : sAB S 14 (sAN S 18 (8 * k + p)) = true := z_b1 c57
    have hs : octS S k p = octV (sAL S 15 (sAN S 18 (8 * k + p))) (8 * (sAN S 10 (sAN S 18 (8 * k + p)) - 1 - sAN S 19 (8 * k + p))) := by unfold octS; simp [hj, hc]
    refine z_aload_n F dX6_octet_60 rfl rfl ?_
    refine z_getf F vF_X6_41 dX6_octet_61 mO_at rfl ?_
    refine z_iload_n F dX6_octet_64 rfl ?_
    refine z_lald F dX6_octet_65 mA_15 rfl rfl (show sAN S 18 (8 * k + p) < 40 by omega) (Nat.le_of_ble_eq_true rfl) ?_
    refine z_goto (tgt := 75) F dX6_octet_66 (by decide) ?_
    refine z_lstore F dX6_octet_75 (Nat.le_of_ble_eq_true rfl) ?_
    refine z_lload F dX6_octet_77 rfl ?_
    refine z_bipush (v := 8) F dX6_octet_79 rfl ?_
    refine z_aload_n F dX6_octet_81 rfl rfl ?_
    refine z_getf F vF_X6_24 dX6_octet_82 mO_at rfl ?_
    refine z_iload_n F dX6_octet_85 rfl ?_
    refine z_iald F dX6_octet_86 mA_10 rfl rfl (show sAN S 18 (8 * k + p) < 40 by omega) (Nat.le_of_ble_eq_true rfl) ?_
    refine z_iconst (v := 1) F dX6_octet_87 rfl ?_
    refine z_isub F dX6_octet_88 ?_
    refine z_iload F dX6_octet_89 rfl ?_
    refine z_isub F dX6_octet_91 ?_
    refine z_imul F dX6_octet_92 ?_
    rw [z_sh (show sAN S 19 (8 * k + p) < sAN S 10 (sAN S 18 (8 * k + p)) by omega)]
    refine z_lshr F dX6_octet_93 ?_
    refine z_l2i F dX6_octet_94 ?_
    refine z_sipush (v := 255) F dX6_octet_95 rfl ?_
    refine z_iand F dX6_octet_98 ?_
    rw [z_shr8 _ (by omega)]
    exact z_iret F hr dX6_octet_99 rfl (Nat.le_of_ble_eq_true rfl) (Nat.le_of_ble_eq_true rfl) (⟨by rw [hs], rfl⟩)

/-- identifiers as they stand: lengths, parts -/
def idsOK (S : z_S) : Prop := sN S 8 ≤ 40 ∧ ∀ k, k < sN S 8 → sAN S 10 k ≤ 8 ∧ (sAB S 17 k = true → ∀ p, p < sAN S 10 k → partOK S k p)
set_option maxRecDepth 100000 in
set_option maxHeartbeats 1000000 in
theorem c_X6_octet {c : Nat → z_E} {S : z_S} {o : Nat → Int64} {d : z_H} {k p : Nat} (W : idsOK S) (hk : k < sN S 8) (hp : p < sAN S 10 k) : z_K yX6_octet cX6_octet 7 (some .int) 0 0 0 [.ref 11, .int (nI k), .int (nI p)] (HP c (mfun S o) d) (fun v h' => v = some (.int (nI (octS S k p))) ∧ h' = (HP c (mfun S o) d)) := by
  obtain ⟨h40, W⟩ := W
  obtain ⟨hl, hP⟩ := W k hk
  cases hj : sAB S 17 k with
  | false => exact c_X6_octet_n h40 hk hj hp hl
  | true =>
    obtain ⟨a1, a2, a3⟩ := hP hj p hp
    exact c_X6_octet_y h40 hk hj (by omega) a1 a3 (W _ a1).1

set_option maxRecDepth 100000 in
set_option maxHeartbeats 1000000 in
theorem l_X6_valueOf {c : Nat → z_E} {S : z_S} {o : Nat → Int64} {d : z_H} {k : Nat} (W : idsOK S) (hk : k < sN S 8) {G : z_G} {X : z_X} (F : z_F vwCl z_ats z_nw wsL_law G RX6 cX6_valueOf 5 (z_rm 1 0 0) X) (hr : X.2.2.2.2.2.2.2.2.1.sig.returnType = some .long) :
    ∀ (m i : Nat), i + m = sAN S 10 k → z_V vwCl G 5 X (z_end vwCl z_ats z_nw G X 0 0 (fun v h' => v = some (.long (numL (fun j => nI (octS S k j)) (sAN S 10 k))) ∧ h' = (HP c (mfun S o) d))) 0 0 5 [(0, .ref 11), (1, .int (nI k)), (2, .long (numL (fun j => nI (octS S k j)) i)), (4, .int (nI i))] [] (HP c (mfun S o) d) := by
  intro m
  induction m with
  | zero =>
    intro i hi
    have h40 := W.1
    have hl := (W.2 k hk).1
    obtain rfl : i = sAN S 10 k := by omega
    refine z_iload F dX6_valueOf_5 rfl ?_
    refine z_aload_n F dX6_valueOf_7 rfl rfl ?_
    refine z_getf F vF_X6_24 dX6_valueOf_8 mO_at rfl ?_
    refine z_iload_n F dX6_valueOf_11 rfl ?_
    refine z_iald F dX6_valueOf_12 mA_10 rfl rfl (show k < 40 by omega) (Nat.le_of_ble_eq_true rfl) ?_
    refine z_icmp_ge (tgt := 36) F dX6_valueOf_13 (by decide) (fun c13 => ?_) (fun c13 => absurd (nI_le (Nat.le_refl _) (by omega)) c13)
    refine z_lload_n F dX6_valueOf_36 rfl ?_
    exact z_lret F hr dX6_valueOf_37 (Nat.le_of_ble_eq_true rfl) (Nat.le_of_ble_eq_true rfl) (⟨rfl, rfl⟩)
  | succ m ih =>
    intro i hi
    have h40 := W.1
    have hl := (W.2 k hk).1
    refine z_iload F dX6_valueOf_5 rfl ?_
    refine z_aload_n F dX6_valueOf_7 rfl rfl ?_
    refine z_getf F vF_X6_24 dX6_valueOf_8 mO_at rfl ?_
    refine z_iload_n F dX6_valueOf_11 rfl ?_
    refine z_iald F dX6_valueOf_12 mA_10 rfl rfl (show k < 40 by omega) (Nat.le_of_ble_eq_true rfl) ?_
    refine z_icmp_ge (tgt := 36) F dX6_valueOf_13 (by decide) (fun c13 => absurd c13 (nI_ge (show i < sAN S 10 k by omega) (by omega))) (fun c13 => ?_)
    refine z_lload_n F dX6_valueOf_16 rfl ?_
    refine z_bipush (v := 8) F dX6_valueOf_17 rfl ?_
    refine z_lshl F dX6_valueOf_19 ?_
    refine z_aload_n F dX6_valueOf_20 rfl rfl ?_
    refine z_iload_n F dX6_valueOf_21 rfl ?_
    refine z_iload F dX6_valueOf_22 rfl ?_
    refine z_callV F z_nwOK wL_good (c_X6_octet W hk (show i < sAN S 10 k by omega)) mO_at rfl vI_X6_octet vM_X6_120 vV_X6_octet vL_X6_octet rfl dX6_valueOf_24 rfl rfl (Nat.le_of_ble_eq_true rfl) ⟨(Nat.le_of_ble_eq_true rfl), (Nat.le_of_ble_eq_true rfl), (Nat.le_of_ble_eq_true rfl), (Nat.le_of_ble_eq_true rfl)⟩ (fun v h1 hq => ?_)
    obtain ⟨rfl, rfl⟩ := hq
    refine z_i2l F dX6_valueOf_27 ?_
    refine z_lor F dX6_valueOf_28 ?_
    refine z_lstore_n F dX6_valueOf_29 (Nat.le_of_ble_eq_true rfl) ?_
    refine z_iinc (w := 1) F dX6_valueOf_30 rfl rfl (Nat.le_of_ble_eq_true rfl) ?_
    rw [nI_1]
    refine z_goto (tgt := 5) F dX6_valueOf_33 (by decide) ?_
    exact ih (i + 1) (by omega)

set_option maxRecDepth 100000 in
set_option maxHeartbeats 1000000 in
theorem c_X6_valueOf {c : Nat → z_E} {S : z_S} {o : Nat → Int64} {d : z_H} {k : Nat} (W : idsOK S) (hk : k < sN S 8) : z_K yX6_valueOf cX6_valueOf 5 (some .long) 1 0 0 [.ref 11, .int (nI k)] (HP c (mfun S o) d) (fun v h' => v = some (.long (numL (fun j => nI (octS S k j)) (sAN S 10 k))) ∧ h' = (HP c (mfun S o) d)) := by
  refine z_met vI_X6_valueOf (Nat.le_of_ble_eq_true rfl) (fun G X F hr hnm => ?_)
  refine z_lconst (v := 0) F dX6_valueOf_0 rfl ?_
  refine z_lstore_n F dX6_valueOf_1 (Nat.le_of_ble_eq_true rfl) ?_
  refine z_iconst (v := 0) F dX6_valueOf_2 rfl ?_
  refine z_istore F dX6_valueOf_3 (Nat.le_of_ble_eq_true rfl) ?_
  exact l_X6_valueOf W hk F hr (sAN S 10 k) 0 (by omega)

def valS (S : z_S) (k : Nat) : Int64 := numL (fun j => nI (octS S k j)) (sAN S 10 k)
def sp_value (S : z_S) (id : Int32) : Int64 := match fnd (sAI S 9) id (sN S 8) with
  | none => 0
  | some k => valS S k

set_option maxRecDepth 100000 in
set_option maxHeartbeats 1000000 in
theorem c_X6_value {c : Nat → z_E} {S : z_S} {o : Nat → Int64} {d : z_H} (id : Int32) (W : idsOK S) : z_K yX6_value cX6_value 3 (some .long) 2 0 0 [.ref 11, .int id] (HP c (mfun S o) d) (fun v h' => v = some (.long (sp_value S id)) ∧ h' = (HP c (mfun (uN S 0 0) o) d)) := by
  refine z_met vI_X6_value (Nat.le_of_ble_eq_true rfl) (fun G X F hr hnm => ?_)
  refine z_aload_n F dX6_value_0 rfl rfl ?_
  refine z_iconst (v := 0) F dX6_value_1 rfl ?_
  refine z_putf F vF_X6_83 vT_X6 vD_X6_0 dX6_value_2 mO_at (Nat.le_of_ble_eq_true rfl) rfl rfl (fun g2 => ?_)
  refine z_heap _ (ms_0 (v := 0)) ?_
  refine z_aload_n F dX6_value_5 rfl rfl ?_
  refine z_iload_n F dX6_value_6 rfl ?_
  refine z_callV F z_nwOK wL_good (c_X6_find (S := uN S 0 0) W.1) mO_at rfl vI_X6_find vM_X6_99 vV_X6_find vL_X6_find rfl dX6_value_7 rfl rfl (Nat.le_of_ble_eq_true rfl) ⟨(Nat.le_of_ble_eq_true rfl), (Nat.le_of_ble_eq_true rfl), (Nat.le_of_ble_eq_true rfl), (Nat.le_of_ble_eq_true rfl)⟩ (fun v h1 hq => ?_)
  obtain ⟨rfl, rfl⟩ := hq
  cases hf : fnd (sAI S 9) id (sN S 8) with
  | none =>
    rw [show fnd (sAI (uN S 0 0) 9) id (sN (uN S 0 0) 8) = none from hf]
    have hs : sp_value S id = 0 := by unfold sp_value; rw [hf]
    refine z_istore_n F dX6_value_10 (Nat.le_of_ble_eq_true rfl) ?_
    refine z_iload_n F dX6_value_11 rfl ?_
    refine z_if_ge (tgt := 19) F dX6_value_12 (by decide) (fun c12 => absurd c12 (by decide)) (fun c12 => ?_)
    refine z_lconst (v := 0) F dX6_value_15 rfl ?_
    refine z_goto (tgt := 24) F dX6_value_16 (by decide) ?_
    exact z_lret F hr dX6_value_24 (Nat.le_of_ble_eq_true rfl) (Nat.le_of_ble_eq_true rfl) (⟨by rw [hs], rfl⟩)
  | some i =>
    rw [show fnd (sAI (uN S 0 0) 9) id (sN (uN S 0 0) 8) = some i from hf]
    have hk := fnd_lt hf
    have hs : sp_value S id = valS S i := by unfold sp_value; rw [hf]
    have h40 := W.1
    refine z_istore_n F dX6_value_10 (Nat.le_of_ble_eq_true rfl) ?_
    refine z_iload_n F dX6_value_11 rfl ?_
    refine z_if_ge (tgt := 19) F dX6_value_12 (by decide) (fun c12 => ?_) (fun c12 => absurd (nI_pos' (by omega)) c12)
    refine z_aload_n F dX6_value_19 rfl rfl ?_
    refine z_iload_n F dX6_value_20 rfl ?_
    refine z_callV F z_nwOK wL_good (c_X6_valueOf (S := uN S 0 0) W hk) mO_at rfl vI_X6_valueOf vM_X6_124 vV_X6_valueOf vL_X6_valueOf rfl dX6_value_21 rfl rfl (Nat.le_of_ble_eq_true rfl) ⟨(Nat.le_of_ble_eq_true rfl), (Nat.le_of_ble_eq_true rfl), (Nat.le_of_ble_eq_true rfl), (Nat.le_of_ble_eq_true rfl)⟩ (fun v h1 hq => ?_)
    obtain ⟨rfl, rfl⟩ := hq
    exact z_lret F hr dX6_value_24 (Nat.le_of_ble_eq_true rfl) (Nat.le_of_ble_eq_true rfl) (⟨by rw [hs]; rfl, rfl⟩)
end
section
/-! THE SERVICES, as the reference has them: row 39 the question's octets, 38 how many, 40 and 41 the answer -/
theorem nI_word {a b : Nat} (ha : a < 256) (hb : b < 256) : (nI a <<< ((8 : Int32) &&& 31)) ||| nI b = nI (a * 256 + b) := by
  rw [pk_shlN (n := a) ((8 : Int32) &&& 31) 8 (by decide) (by omega)]
  apply Int32.toBitVec_inj.mp
  rw [Int32.toBitVec_or]
  show BitVec.ofNat 32 (a * 2 ^ 8) ||| BitVec.ofNat 32 b = BitVec.ofNat 32 (a * 256 + b)
  apply BitVec.eq_of_toNat_eq
  rw [BitVec.toNat_or, BitVec.toNat_ofNat, BitVec.toNat_ofNat, BitVec.toNat_ofNat, Nat.mod_eq_of_lt (by omega), Nat.mod_eq_of_lt (by omega), Nat.mod_eq_of_lt (by omega)]
  rw [Nat.mul_comm a (2 ^ 8), ← Nat.two_pow_add_eq_or_of_lt (by omega : b < 2 ^ 8)]
def toldN (S : z_S) (a : Nat) : Nat := sAN S 39 a * 256 + sAN S 39 (a + 1)
def rowOK (S : z_S) : Prop := ∀ k, sAN S 39 k < 256
def sayS (S : z_S) (b : Nat) : z_S := uN (uAN S 41 (va_up (sAN S 41) (sN S 40) (b % 256))) 40 (sN S 40 + 1)
def clr (S : z_S) (i k : Nat) : Bool := if k < i then false else sAB S 14 k
def endS (S : z_S) (f : Nat) : z_S := uN (uN (uB (uAB S 14 (clr S (sN S 8))) 26 false) 2 0) 1 f
def hereS (S : z_S) (r : Option Nat) : Bool := match r with
  | none => false
  | some k => decide (sAN S 11 k ≤ sN S 1)
/-- the identifier told, if it is here -/
def hereF (S : z_S) (t : Nat) : Option Nat := match fnd (sAI S 9) (nI t) (sN S 8) with
  | none => none
  | some k => if sAN S 11 k ≤ sN S 1 then some k else none
theorem here_cases (S : z_S) (t : Nat) : (hereF S t = none ∧ hereS S (fnd (sAI S 9) (nI t) (sN S 8)) = false) ∨ ∃ k, fnd (sAI S 9) (nI t) (sN S 8) = some k ∧ hereF S t = some k ∧ hereS S (some k) = true ∧ k < sN S 8 := by
  unfold hereF
  cases hf : fnd (sAI S 9) (nI t) (sN S 8) with
  | none => exact Or.inl ⟨rfl, rfl⟩
  | some k =>
    by_cases h : sAN S 11 k ≤ sN S 1
    · exact Or.inr ⟨k, rfl, if_pos h, decide_eq_true h, fnd_lt hf⟩
    · exact Or.inl ⟨if_neg h, decide_eq_false h⟩
theorem va_same {α : Type} (f : Nat → α) (j : Nat) : va_up f j (f j) = f := by
  funext k
  by_cases h : k = j <;> simp [va_up, h]
theorem uAB_again (S : z_S) (j : Nat) (f g : Nat → Bool) : uAB (uAB S j f) j g = uAB S j g := by
  unfold uAB
  rw [bx_uu]
theorem uAN_again (S : z_S) (j : Nat) (f g : Nat → Nat) : uAN (uAN S j f) j g = uAN S j g := by
  unfold uAN
  rw [bx_uu]
theorem uAL_again (S : z_S) (j : Nat) (f g : Nat → Int64) : uAL (uAL S j f) j g = uAL S j g := by
  unfold uAL
  rw [bx_uu]
theorem uN_again (S : z_S) (j v w : Nat) : uN (uN S j v) j w = uN S j w := by
  unfold uN
  rw [bx_uu]
theorem uAB_same (S : z_S) (j : Nat) : uAB S j (sAB S j) = S := by
  unfold uAB
  rw [show va_up S.2.2.2.2.1 j (sAB S j) = S.2.2.2.2.1 from va_same _ j]
theorem uAN_same (S : z_S) (j : Nat) : uAN S j (sAN S j) = S := by
  unfold uAN
  rw [show va_up S.2.2.2.1 j (sAN S j) = S.2.2.2.1 from va_same _ j]
theorem uAL_same (S : z_S) (j : Nat) : uAL S j (sAL S j) = S := by
  unfold uAL
  rw [show va_up S.2.2.2.2.2.1 j (sAL S j) = S.2.2.2.2.2.1 from va_same _ j]
theorem clr_step (S : z_S) (i : Nat) : uAB (uAB S 14 (clr S i)) 14 (va_up (clr S i) i false) = uAB S 14 (clr S (i + 1)) := by
  rw [uAB_again]
  congr 1
  funext k
  unfold va_up clr
  by_cases h : k = i
  · simp [h]
  · by_cases h2 : k < i
    · have h3 : k < i + 1 := by omega
      simp [h, h2, h3]
    · have h3 : ¬ k < i + 1 := by omega
      simp [h, h2, h3]
theorem z_hS {c : Nat → z_E} {o : Nat → Int64} {d : z_H} {S S2 : z_S} (h : S = S2) : HP c (mfun S o) d = HP c (mfun S2 o) d := by rw [h]

set_option maxRecDepth 100000 in
set_option maxHeartbeats 1000000 in
theorem c_X6_told {c : Nat → z_E} {S : z_S} {o : Nat → Int64} {d : z_H} {a : Nat} (W : rowOK S) (ha : a + 1 < 60) : z_K yX6_told cX6_told 2 (some .int) 0 0 0 [.ref 11, .int (nI a)] (HP c (mfun S o) d) (fun v h' => v = some (.int (nI (toldN S a))) ∧ h' = (HP c (mfun S o) d)) := by
  refine z_met vI_X6_told (Nat.le_of_ble_eq_true rfl) (fun G X F hr hnm => ?_)
  refine z_aload_n F dX6_told_0 rfl rfl ?_
  refine z_getf F vF_X6_74 dX6_told_1 mO_at rfl ?_
  refine z_iload_n F dX6_told_4 rfl ?_
  refine z_iald F dX6_told_5 mA_39 rfl rfl (show a < 60 by omega) (Nat.le_of_ble_eq_true rfl) ?_
  refine z_bipush (v := 8) F dX6_told_6 rfl ?_
  refine z_ishl F dX6_told_8 ?_
  refine z_aload_n F dX6_told_9 rfl rfl ?_
  refine z_getf F vF_X6_74 dX6_told_10 mO_at rfl ?_
  refine z_iload_n F dX6_told_13 rfl ?_
  refine z_iconst (v := 1) F dX6_told_14 rfl ?_
  refine z_iadd F dX6_told_15 ?_
  rw [nI_1]
  refine z_iald F dX6_told_16 mA_39 rfl rfl (show a + 1 < 60 by omega) (Nat.le_of_ble_eq_true rfl) ?_
  refine z_ior F dX6_told_17 ?_
  rw [nI_word (W a) (W (a + 1))]
  exact z_iret F hr dX6_told_18 rfl (Nat.le_of_ble_eq_true rfl) (Nat.le_of_ble_eq_true rfl) (⟨rfl, rfl⟩)

set_option maxRecDepth 100000 in
set_option maxHeartbeats 1000000 in
theorem l_X6_number {c : Nat → z_E} {S : z_S} {o : Nat → Int64} {d : z_H} {a n : Nat} (ha : a + n ≤ 60) {G : z_G} {X : z_X} (F : z_F vwCl z_ats z_nw wsL_law G RX6 cX6_number 6 (z_rm 0 0 0) X) (hr : X.2.2.2.2.2.2.2.2.1.sig.returnType = some .long) :
    ∀ (m i : Nat), i + m = n → z_V vwCl G 6 X (z_end vwCl z_ats z_nw G X 0 0 (fun v h' => v = some (.long (numL (fun i => nI (sAN S 39 (a + i))) n)) ∧ h' = (HP c (mfun S o) d))) 0 0 5 [(0, .ref 11), (1, .int (nI a)), (2, .int (nI n)), (3, .long (numL (fun i => nI (sAN S 39 (a + i))) i)), (5, .int (nI i))] [] (HP c (mfun S o) d) := by
  intro m
  induction m with
  | zero =>
    intro i hi
    obtain rfl : i = n := by omega
    refine z_iload F dX6_number_5 rfl ?_
    refine z_iload_n F dX6_number_7 rfl ?_
    refine z_icmp_ge (tgt := 33) F dX6_number_8 (by decide) (fun c8 => ?_) (fun c8 => absurd (nI_le (Nat.le_refl _) (by omega)) c8)
    refine z_lload_n F dX6_number_33 rfl ?_
    exact z_lret F hr dX6_number_34 (Nat.le_of_ble_eq_true rfl) (Nat.le_of_ble_eq_true rfl) (⟨rfl, rfl⟩)
  | succ m ih =>
    intro i hi
    refine z_iload F dX6_number_5 rfl ?_
    refine z_iload_n F dX6_number_7 rfl ?_
    refine z_icmp_ge (tgt := 33) F dX6_number_8 (by decide) (fun c8 => absurd c8 (nI_ge (show i < n by omega) (by omega))) (fun c8 => ?_)
    refine z_lload_n F dX6_number_11 rfl ?_
    refine z_bipush (v := 8) F dX6_number_12 rfl ?_
    refine z_lshl F dX6_number_14 ?_
    refine z_aload_n F dX6_number_15 rfl rfl ?_
    refine z_getf F vF_X6_74 dX6_number_16 mO_at rfl ?_
    refine z_iload_n F dX6_number_19 rfl ?_
    refine z_iload F dX6_number_20 rfl ?_
    refine z_iadd F dX6_number_22 ?_
    rw [nI_add]
    refine z_iald F dX6_number_23 mA_39 rfl rfl (show a + i < 60 by omega) (Nat.le_of_ble_eq_true rfl) ?_
    refine z_i2l F dX6_number_24 ?_
    refine z_lor F dX6_number_25 ?_
    refine z_lstore_n F dX6_number_26 (Nat.le_of_ble_eq_true rfl) ?_
    refine z_iinc (w := 1) F dX6_number_27 rfl rfl (Nat.le_of_ble_eq_true rfl) ?_
    rw [nI_1]
    refine z_goto (tgt := 5) F dX6_number_30 (by decide) ?_
    exact ih (i + 1) (by omega)

set_option maxRecDepth 100000 in
set_option maxHeartbeats 1000000 in
theorem c_X6_number {c : Nat → z_E} {S : z_S} {o : Nat → Int64} {d : z_H} {a n : Nat} (ha : a + n ≤ 60) : z_K yX6_number cX6_number 6 (some .long) 0 0 0 [.ref 11, .int (nI a), .int (nI n)] (HP c (mfun S o) d) (fun v h' => v = some (.long (numL (fun i => nI (sAN S 39 (a + i))) n)) ∧ h' = (HP c (mfun S o) d)) := by
  refine z_met vI_X6_number (Nat.le_of_ble_eq_true rfl) (fun G X F hr hnm => ?_)
  refine z_lconst (v := 0) F dX6_number_0 rfl ?_
  refine z_lstore_n F dX6_number_1 (Nat.le_of_ble_eq_true rfl) ?_
  refine z_iconst (v := 0) F dX6_number_2 rfl ?_
  refine z_istore F dX6_number_3 (Nat.le_of_ble_eq_true rfl) ?_
  exact l_X6_number ha F hr n 0 (by omega)

set_option maxRecDepth 100000 in
set_option maxHeartbeats 1000000 in
theorem c_X6_say {c : Nat → z_E} {S : z_S} {o : Nat → Int64} {d : z_H} {b : Nat} (ha : sN S 40 < 1000) (hb : b < 2 ^ 31) : z_K yX6_say cX6_say 2 none 0 0 0 [.ref 11, .int (nI b)] (HP c (mfun S o) d) (fun v h' => v = none ∧ h' = (HP c (mfun (sayS S b) o) d)) := by
  refine z_met vI_X6_say (Nat.le_of_ble_eq_true rfl) (fun G X F hr hnm => ?_)
  refine z_aload_n F dX6_say_0 rfl rfl ?_
  refine z_getf F vF_X6_77 dX6_say_1 mO_at rfl ?_
  refine z_aload_n F dX6_say_4 rfl rfl ?_
  refine z_getf F vF_X6_128 dX6_say_5 mO_at rfl ?_
  refine z_iload_n F dX6_say_8 rfl ?_
  refine z_sipush (v := 255) F dX6_say_9 rfl ?_
  refine z_iand F dX6_say_12 ?_
  rw [pk_andN (show b < 2 ^ 32 by omega) 8 (by decide)]
  refine z_iast F dX6_say_13 mA_41 rfl rfl ha (Nat.le_of_ble_eq_true rfl) ?_
  refine z_heap _ (ma_41) ?_
  refine z_aload_n F dX6_say_14 rfl rfl ?_
  refine z_dup F dX6_say_15 rfl ?_
  refine z_getf F vF_X6_128 dX6_say_16 mO_at rfl ?_
  refine z_iconst (v := 1) F dX6_say_19 rfl ?_
  refine z_iadd F dX6_say_20 ?_
  rw [nI_1]
  refine z_putf F vF_X6_128 vT_X6 vD_X6_40 dX6_say_21 mO_at (Nat.le_of_ble_eq_true rfl) rfl rfl (fun g21 => ?_)
  refine z_heap _ (ms_40) ?_
  exact z_vret F hr dX6_say_24 (Nat.le_of_ble_eq_true rfl) (Nat.le_of_ble_eq_true rfl) (⟨rfl, rfl⟩)

set_option maxRecDepth 100000 in
set_option maxHeartbeats 1000000 in
theorem c_X6_threeSaid {c : Nat → z_E} {S : z_S} {o : Nat → Int64} {d : z_H} {x y w : Nat} (ha : sN S 40 < 900) (hx : x < 2 ^ 31) (hy : y < 2 ^ 31) (hw : w < 2 ^ 31) : z_K yX6_threeSaid cX6_threeSaid 4 none 1 0 0 [.ref 11, .int (nI x), .int (nI y), .int (nI w)] (HP c (mfun S o) d) (fun v h' => v = none ∧ h' = (HP c (mfun (sayS (sayS (sayS S x) y) w) o) d)) := by
  refine z_met vI_X6_threeSaid (Nat.le_of_ble_eq_true rfl) (fun G X F hr hnm => ?_)
  refine z_aload_n F dX6_threeSaid_0 rfl rfl ?_
  refine z_iload_n F dX6_threeSaid_1 rfl ?_
  refine z_callV F z_nwOK wL_good (c_X6_say (b := x) (by omega) hx) mO_at rfl vI_X6_say vM_X6_131 vV_X6_say vL_X6_say rfl dX6_threeSaid_2 rfl rfl (Nat.le_of_ble_eq_true rfl) ⟨(Nat.le_of_ble_eq_true rfl), (Nat.le_of_ble_eq_true rfl), (Nat.le_of_ble_eq_true rfl), (Nat.le_of_ble_eq_true rfl)⟩ (fun v h1 hq => ?_)
  obtain ⟨rfl, rfl⟩ := hq
  refine z_aload_n F dX6_threeSaid_5 rfl rfl ?_
  refine z_iload_n F dX6_threeSaid_6 rfl ?_
  refine z_callV F z_nwOK wL_good (c_X6_say (S := sayS S x) (b := y) (show sN S 40 + 1 < 1000 by omega) hy) mO_at rfl vI_X6_say vM_X6_131 vV_X6_say vL_X6_say rfl dX6_threeSaid_7 rfl rfl (Nat.le_of_ble_eq_true rfl) ⟨(Nat.le_of_ble_eq_true rfl), (Nat.le_of_ble_eq_true rfl), (Nat.le_of_ble_eq_true rfl), (Nat.le_of_ble_eq_true rfl)⟩ (fun v h1 hq => ?_)
  obtain ⟨rfl, rfl⟩ := hq
  refine z_aload_n F dX6_threeSaid_10 rfl rfl ?_
  refine z_iload_n F dX6_threeSaid_11 rfl ?_
  refine z_callV F z_nwOK wL_good (c_X6_say (S := sayS (sayS S x) y) (b := w) (show sN S 40 + 1 + 1 < 1000 by omega) hw) mO_at rfl vI_X6_say vM_X6_131 vV_X6_say vL_X6_say rfl dX6_threeSaid_12 rfl rfl (Nat.le_of_ble_eq_true rfl) ⟨(Nat.le_of_ble_eq_true rfl), (Nat.le_of_ble_eq_true rfl), (Nat.le_of_ble_eq_true rfl), (Nat.le_of_ble_eq_true rfl)⟩ (fun v h1 hq => ?_)
  obtain ⟨rfl, rfl⟩ := hq
  exact z_vret F hr dX6_threeSaid_15 (Nat.le_of_ble_eq_true rfl) (Nat.le_of_ble_eq_true rfl) (⟨rfl, rfl⟩)

set_option maxRecDepth 100000 in
set_option maxHeartbeats 1000000 in
theorem l_X6_ends {c : Nat → z_E} {S : z_S} {o : Nat → Int64} {d : z_H} {f : Nat} (h40 : sN S 8 ≤ 40) {G : z_G} {X : z_X} (F : z_F vwCl z_ats z_nw wsL_law G RX6 cX6_ends 3 (z_rm 0 0 0) X) (hr : X.2.2.2.2.2.2.2.2.1.sig.returnType = none) :
    ∀ (m i : Nat), i + m = sN S 8 → z_V vwCl G 3 X (z_end vwCl z_ats z_nw G X 0 0 (fun v h' => v = none ∧ h' = (HP c (mfun (endS S f) o) d))) 0 0 2 [(0, .ref 11), (1, .int (nI f)), (2, .int (nI i))] [] (HP c (mfun (uAB S 14 (clr S i)) o) d) := by
  intro m
  induction m with
  | zero =>
    intro i hi
    obtain rfl : i = sN S 8 := by omega
    refine z_iload_n F dX6_ends_2 rfl ?_
    refine z_aload_n F dX6_ends_3 rfl rfl ?_
    refine z_getf F vF_X6_86 dX6_ends_4 mO_at rfl ?_
    refine z_icmp_ge (tgt := 23) F dX6_ends_7 (by decide) (fun c7 => ?_) (fun c7 => absurd (nI_le (show sN S 8 ≤ sN S 8 from Nat.le_refl _) (by omega)) c7)
    refine z_aload_n F dX6_ends_23 rfl rfl ?_
    refine z_iconst (v := 0) F dX6_ends_24 rfl ?_
    refine z_putf F vF_X6_135 vT_X6 vD_X6_26 dX6_ends_25 mO_at (Nat.le_of_ble_eq_true rfl) rfl rfl (fun g25 => ?_)
    refine z_heap _ (ms_26 (v := false)) ?_
    refine z_aload_n F dX6_ends_28 rfl rfl ?_
    refine z_iconst (v := 0) F dX6_ends_29 rfl ?_
    refine z_putf F vF_X6_112 vT_X6 vD_X6_2 dX6_ends_30 mO_at (Nat.le_of_ble_eq_true rfl) rfl rfl (fun g30 => ?_)
    refine z_heap _ (ms_2 (v := 0)) ?_
    refine z_aload_n F dX6_ends_33 rfl rfl ?_
    refine z_iload_n F dX6_ends_34 rfl ?_
    refine z_putf F vF_X6_7 vT_X6 vD_X6_1 dX6_ends_35 mO_at (Nat.le_of_ble_eq_true rfl) rfl rfl (fun g35 => ?_)
    refine z_heap _ (ms_1) ?_
    exact z_vret F hr dX6_ends_38 (Nat.le_of_ble_eq_true rfl) (Nat.le_of_ble_eq_true rfl) (⟨rfl, rfl⟩)
  | succ m ih =>
    intro i hi
    refine z_iload_n F dX6_ends_2 rfl ?_
    refine z_aload_n F dX6_ends_3 rfl rfl ?_
    refine z_getf F vF_X6_86 dX6_ends_4 mO_at rfl ?_
    refine z_icmp_ge (tgt := 23) F dX6_ends_7 (by decide) (fun c7 => absurd c7 (nI_ge (a := i) (b := sN S 8) (by omega) (by omega))) (fun c7 => ?_)
    refine z_aload_n F dX6_ends_10 rfl rfl ?_
    refine z_getf F vF_X6_37 dX6_ends_11 mO_at rfl ?_
    refine z_iload_n F dX6_ends_14 rfl ?_
    refine z_iconst (v := 0) F dX6_ends_15 rfl ?_
    refine z_zast F dX6_ends_16 mA_14 rfl rfl (show i < 40 by omega) (Nat.le_of_ble_eq_true rfl) ?_
    refine z_heap _ (ma_14 (v := false)) ?_
    refine z_iinc (w := 1) F dX6_ends_17 rfl rfl (Nat.le_of_ble_eq_true rfl) ?_
    rw [nI_1]
    refine z_goto (tgt := 2) F dX6_ends_20 (by decide) ?_
    refine z_heap _ (z_hS (clr_step S i)) ?_
    exact ih (i + 1) (by omega)

set_option maxRecDepth 100000 in
set_option maxHeartbeats 1000000 in
theorem c_X6_ends {c : Nat → z_E} {S : z_S} {o : Nat → Int64} {d : z_H} {f : Nat} (h40 : sN S 8 ≤ 40) : z_K yX6_ends cX6_ends 3 none 0 0 0 [.ref 11, .int (nI f)] (HP c (mfun S o) d) (fun v h' => v = none ∧ h' = (HP c (mfun (endS S f) o) d)) := by
  refine z_met vI_X6_ends (Nat.le_of_ble_eq_true rfl) (fun G X F hr hnm => ?_)
  refine z_iconst (v := 0) F dX6_ends_0 rfl ?_
  refine z_istore_n F dX6_ends_1 (Nat.le_of_ble_eq_true rfl) ?_
  refine z_heap _ (z_hS (S2 := uAB S 14 (clr S 0)) (by rw [show clr S 0 = sAB S 14 from by funext k; simp [clr]]; exact (uAB_same S 14).symm)) ?_
  exact l_X6_ends h40 F hr (sN S 8) 0 (by omega)

set_option maxRecDepth 100000 in
set_option maxHeartbeats 1000000 in
theorem c_X6_isHere_n {c : Nat → z_E} {S : z_S} {o : Nat → Int64} {d : z_H} : z_K yX6_isHere cX6_isHere 2 (some .boolean) 0 0 0 [.ref 11, .int (fI none)] (HP c (mfun S o) d) (fun v h' => v = some (.int (z_b (hereS S none))) ∧ h' = (HP c (mfun S o) d)) := by
  refine z_met vI_X6_isHere (Nat.le_of_ble_eq_true rfl) (fun G X F hr hnm => ?_)
  refine z_iload_n F dX6_isHere_0 rfl ?_
  refine z_if_lt (tgt := 21) F dX6_isHere_1 (by decide) (fun c1 => ?_) (fun c1 => absurd (by decide) c1)
  refine z_iconst (v := 0) F dX6_isHere_21 rfl ?_
  exact z_iret F hr dX6_isHere_22 rfl (Nat.le_of_ble_eq_true rfl) (Nat.le_of_ble_eq_true rfl) (⟨rfl, rfl⟩)

set_option maxRecDepth 100000 in
set_option maxHeartbeats 1000000 in
theorem c_X6_isHere_s {c : Nat → z_E} {S : z_S} {o : Nat → Int64} {d : z_H} {k : Nat} (hk : k < 40) (h1 : sN S 1 < 1000) (h2 : sAN S 11 k < 1000) : z_K yX6_isHere cX6_isHere 2 (some .boolean) 0 0 0 [.ref 11, .int (fI (some k))] (HP c (mfun S o) d) (fun v h' => v = some (.int (z_b (hereS S (some k)))) ∧ h' = (HP c (mfun S o) d)) := by
  refine z_met vI_X6_isHere (Nat.le_of_ble_eq_true rfl) (fun G X F hr hnm => ?_)
  refine z_iload_n F dX6_isHere_0 rfl ?_
  refine z_if_lt (tgt := 21) F dX6_isHere_1 (by decide) (fun c1 => absurd c1 (nI_pos (by omega))) (fun c1 => ?_)
  refine z_aload_n F dX6_isHere_4 rfl rfl ?_
  refine z_getf F vF_X6_27 dX6_isHere_5 mO_at rfl ?_
  refine z_iload_n F dX6_isHere_8 rfl ?_
  refine z_iald F dX6_isHere_9 mA_11 rfl rfl (show k < 40 by omega) (Nat.le_of_ble_eq_true rfl) ?_
  refine z_aload_n F dX6_isHere_10 rfl rfl ?_
  refine z_getf F vF_X6_7 dX6_isHere_11 mO_at rfl ?_
  refine z_icmp_gt (tgt := 21) F dX6_isHere_14 (by decide) (fun c14 => ?_) (fun c14 => ?_)
  · have hz : hereS S (some k) = false := decide_eq_false (by have := mt (nI_ltI (a := sN S 1) (b := sAN S 11 k) (by omega) (by omega)).mpr; have := (nI_ltI (by omega) (by omega)).mp c14; omega)
    refine z_iconst (v := 0) F dX6_isHere_21 rfl ?_
    exact z_iret F hr dX6_isHere_22 rfl (Nat.le_of_ble_eq_true rfl) (Nat.le_of_ble_eq_true rfl) (⟨by rw [hz]; rfl, rfl⟩)
  · have hz : hereS S (some k) = true := decide_eq_true (by have := mt (nI_ltI (a := sN S 1) (b := sAN S 11 k) (by omega) (by omega)).mpr c14; omega)
    refine z_iconst (v := 1) F dX6_isHere_17 rfl ?_
    refine z_goto (tgt := 22) F dX6_isHere_18 (by decide) ?_
    exact z_iret F hr dX6_isHere_22 rfl (Nat.le_of_ble_eq_true rfl) (Nat.le_of_ble_eq_true rfl) (⟨by rw [hz]; rfl, rfl⟩)

/-- bounds of the state, for the services -/
def numsOK (S : z_S) : Prop := sN S 1 ≤ 3 ∧ sN S 2 ≤ 3 ∧ sN S 7 ≤ 10 ∧ (∀ k, sAN S 11 k ≤ 3) ∧ (∀ k, sAN S 12 k ≤ 3)
set_option maxRecDepth 100000 in
set_option maxHeartbeats 1000000 in
theorem c_X6_isHere {c : Nat → z_E} {S : z_S} {o : Nat → Int64} {d : z_H} {x : Int32} (W : idsOK S) (V : numsOK S) : z_K yX6_isHere cX6_isHere 2 (some .boolean) 0 0 0 [.ref 11, .int (fI (fnd (sAI S 9) x (sN S 8)))] (HP c (mfun S o) d) (fun v h' => v = some (.int (z_b (hereS S (fnd (sAI S 9) x (sN S 8))))) ∧ h' = (HP c (mfun S o) d)) := by
  cases hf : fnd (sAI S 9) x (sN S 8) with
  | none => exact c_X6_isHere_n
  | some k => exact c_X6_isHere_s (Nat.lt_of_lt_of_le (fnd_lt hf) W.1) (Nat.lt_of_le_of_lt V.1 (by decide)) (Nat.lt_of_le_of_lt (V.2.2.2.1 k) (by decide))

def sv46 (S : z_S) : Nat × z_S :=
  if sN S 38 - 1 < 3 then (19, S) else
  match hereF S (toldN S 1) with
  | none => (49, S)
  | some k => if (sAB S 17 k || sAB S 16 k) = true then (49, S) else if ¬ sN S 38 - 1 - 2 = sAN S 10 k then (19, S) else if sN S 2 < sAN S 12 k then (51, S) else if sB S 5 = false then (34, S)
    else (0, sayS (sayS (sayS (uAL S 13 (va_up (sAL S 13) k (numL (fun i => nI (sAN S 39 (3 + i))) (sAN S 10 k)))) 110) (sAN S 39 1)) (sAN S 39 2))

set_option maxRecDepth 100000 in
set_option maxHeartbeats 1000000 in
theorem c_X6_write {c : Nat → z_E} {S : z_S} {o : Nat → Int64} {d : z_H} (R : rowOK S) (W : idsOK S) (V : numsOK S) (hM : sN S 38 ≤ 60) (hM1 : 1 ≤ sN S 38) (hA : sN S 40 = 0) : z_K yX6_write cX6_write 3 (some .int) 2 0 0 [.ref 11, .int (nI (sN S 38 - 1))] (HP c (mfun S o) d) (fun v h' => v = some (.int (nI (sv46 S).1)) ∧ h' = (HP c (mfun ((sv46 S).2) o) d)) := by
  refine z_met vI_X6_write (Nat.le_of_ble_eq_true rfl) (fun G X F hr hnm => ?_)
  refine z_iload_n F dX6_write_0 rfl ?_
  refine z_iconst (v := 3) F dX6_write_1 rfl ?_
  refine z_icmp_ge (tgt := 8) F dX6_write_2 (by decide) (fun c2 => ?_) (fun c2 => ?_)
  · have h3 : ¬ sN S 38 - 1 < 3 := by have := (nI_leI (a := 3) (b := sN S 38 - 1) (by decide) (by omega)).mp c2; omega
    refine z_aload_n F dX6_write_8 rfl rfl ?_
    refine z_aload_n F dX6_write_9 rfl rfl ?_
    refine z_iconst (v := 1) F dX6_write_10 rfl ?_
    refine z_callV F z_nwOK wL_good (c_X6_told (a := 1) R (by decide)) mO_at rfl vI_X6_told vM_X6_156 vV_X6_told vL_X6_told rfl dX6_write_11 rfl rfl (Nat.le_of_ble_eq_true rfl) ⟨(Nat.le_of_ble_eq_true rfl), (Nat.le_of_ble_eq_true rfl), (Nat.le_of_ble_eq_true rfl), (Nat.le_of_ble_eq_true rfl)⟩ (fun v h1 hq => ?_)
    obtain ⟨rfl, rfl⟩ := hq
    refine z_callV F z_nwOK wL_good (c_X6_find W.1) mO_at rfl vI_X6_find vM_X6_99 vV_X6_find vL_X6_find rfl dX6_write_14 rfl rfl (Nat.le_of_ble_eq_true rfl) ⟨(Nat.le_of_ble_eq_true rfl), (Nat.le_of_ble_eq_true rfl), (Nat.le_of_ble_eq_true rfl), (Nat.le_of_ble_eq_true rfl)⟩ (fun v h1 hq => ?_)
    obtain ⟨rfl, rfl⟩ := hq
    refine z_istore_n F dX6_write_17 (Nat.le_of_ble_eq_true rfl) ?_
    refine z_aload_n F dX6_write_18 rfl rfl ?_
    refine z_iload_n F dX6_write_19 rfl ?_
    refine z_callV F z_nwOK wL_good (c_X6_isHere W V) mO_at rfl vI_X6_isHere vM_X6_180 vV_X6_isHere vL_X6_isHere rfl dX6_write_20 rfl rfl (Nat.le_of_ble_eq_true rfl) ⟨(Nat.le_of_ble_eq_true rfl), (Nat.le_of_ble_eq_true rfl), (Nat.le_of_ble_eq_true rfl), (Nat.le_of_ble_eq_true rfl)⟩ (fun v h1 hq => ?_)
    obtain ⟨rfl, rfl⟩ := hq
    rcases here_cases S (toldN S 1) with ⟨hF, h2⟩ | ⟨k, hr', hF, h2, hk⟩
    · rw [h2]
      have hs : sv46 S = (49, S) := by unfold sv46; rw [if_neg h3, hF]
      refine z_if_eq (tgt := 44) F dX6_write_23 (by decide) (fun c23 => ?_) (fun c23 => absurd rfl c23)
      refine z_bipush (v := 49) F dX6_write_44 rfl ?_
      exact z_iret F hr dX6_write_46 rfl (Nat.le_of_ble_eq_true rfl) (Nat.le_of_ble_eq_true rfl) (⟨by rw [hs]; try rfl, by rw [hs]; try rfl⟩)
    · rw [hr', h2]
      have h40 := W.1
      have hl := (W.2 k hk).1
      refine z_if_eq (tgt := 44) F dX6_write_23 (by decide) (fun c23 => absurd c23 (by decide)) (fun c23 => ?_)
      refine z_aload_n F dX6_write_26 rfl rfl ?_
      refine z_getf F vF_X6_47 dX6_write_27 mO_at rfl ?_
      refine z_iload_n F dX6_write_30 rfl ?_
      refine z_zald F dX6_write_31 mA_17 rfl rfl (show k < 40 by omega) (Nat.le_of_ble_eq_true rfl) ?_
      refine z_if_ne (tgt := 44) F dX6_write_32 (by decide) (fun c32 => ?_) (fun c32 => ?_)
      · have hj : sAB S 17 k = true := z_b1 c32
        have hs : sv46 S = (49, S) := by unfold sv46; rw [if_neg h3, hF]; show (if _ then _ else _) = _; rw [if_pos (by rw [hj]; rfl)]
        refine z_bipush (v := 49) F dX6_write_44 rfl ?_
        exact z_iret F hr dX6_write_46 rfl (Nat.le_of_ble_eq_true rfl) (Nat.le_of_ble_eq_true rfl) (⟨by rw [hs]; try rfl, by rw [hs]; try rfl⟩)
      · have hj : sAB S 17 k = false := z_b0.mp c32
        refine z_aload_n F dX6_write_35 rfl rfl ?_
        refine z_getf F vF_X6_44 dX6_write_36 mO_at rfl ?_
        refine z_iload_n F dX6_write_39 rfl ?_
        refine z_zald F dX6_write_40 mA_16 rfl rfl (show k < 40 by omega) (Nat.le_of_ble_eq_true rfl) ?_
        refine z_if_eq (tgt := 47) F dX6_write_41 (by decide) (fun c41 => ?_) (fun c41 => ?_)
        · have hp : sAB S 16 k = false := z_b0.mp c41
          have hjp : ¬ (sAB S 17 k || sAB S 16 k) = true := by rw [hj, hp]; decide
          refine z_iload_n F dX6_write_47 rfl ?_
          refine z_iconst (v := 2) F dX6_write_48 rfl ?_
          refine z_isub F dX6_write_49 ?_
          refine z_aload_n F dX6_write_50 rfl rfl ?_
          refine z_getf F vF_X6_24 dX6_write_51 mO_at rfl ?_
          refine z_iload_n F dX6_write_54 rfl ?_
          refine z_iald F dX6_write_55 mA_10 rfl rfl (show k < 40 by omega) (Nat.le_of_ble_eq_true rfl) ?_
          rw [show nI (sN S 38 - 1) - 2 = nI (sN S 38 - 1 - 2) from pk_sub (b := 2) (by omega)]
          refine z_icmp_eq (tgt := 62) F dX6_write_56 (by decide) (fun c56 => ?_) (fun c56 => ?_)
          · have hn : sN S 38 - 1 - 2 = sAN S 10 k := (nI_eq (by omega) (by omega)).mp c56
            refine z_aload_n F dX6_write_62 rfl rfl ?_
            refine z_getf F vF_X6_30 dX6_write_63 mO_at rfl ?_
            refine z_iload_n F dX6_write_66 rfl ?_
            refine z_iald F dX6_write_67 mA_12 rfl rfl (show k < 40 by omega) (Nat.le_of_ble_eq_true rfl) ?_
            refine z_aload_n F dX6_write_68 rfl rfl ?_
            refine z_getf F vF_X6_112 dX6_write_69 mO_at rfl ?_
            refine z_icmp_le (tgt := 78) F dX6_write_72 (by decide) (fun c72 => ?_) (fun c72 => ?_)
            · have hv : ¬ sN S 2 < sAN S 12 k := by have := (nI_leI (by have := V.2.2.2.2 k; omega) (by have := V.2.1; omega)).mp c72; omega
              refine z_aload_n F dX6_write_78 rfl rfl ?_
              refine z_getf F vF_X6_13 dX6_write_79 mO_at rfl ?_
              refine z_if_ne (tgt := 88) F dX6_write_82 (by decide) (fun c82 => ?_) (fun c82 => ?_)
              · have hd : ¬ sB S 5 = false := by rw [z_b1 c82]; decide
                have hs : sv46 S = (0, sayS (sayS (sayS (uAL S 13 (va_up (sAL S 13) k (numL (fun i => nI (sAN S 39 (3 + i))) (sAN S 10 k)))) 110) (sAN S 39 1)) (sAN S 39 2)) := by unfold sv46; rw [if_neg h3, hF]; show (if _ then _ else _) = _; rw [if_neg hjp, if_neg (not_not_intro hn), if_neg hv, if_neg hd]
                refine z_aload_n F dX6_write_88 rfl rfl ?_
                refine z_getf F vF_X6_33 dX6_write_89 mO_at rfl ?_
                refine z_iload_n F dX6_write_92 rfl ?_
                refine z_aload_n F dX6_write_93 rfl rfl ?_
                refine z_iconst (v := 3) F dX6_write_94 rfl ?_
                refine z_aload_n F dX6_write_95 rfl rfl ?_
                refine z_getf F vF_X6_24 dX6_write_96 mO_at rfl ?_
                refine z_iload_n F dX6_write_99 rfl ?_
                refine z_iald F dX6_write_100 mA_10 rfl rfl (show k < 40 by omega) (Nat.le_of_ble_eq_true rfl) ?_
                refine z_callV F z_nwOK wL_good (c_X6_number (a := 3) (n := sAN S 10 k) (by omega)) mO_at rfl vI_X6_number vM_X6_184 vV_X6_number vL_X6_number rfl dX6_write_101 rfl rfl (Nat.le_of_ble_eq_true rfl) ⟨(Nat.le_of_ble_eq_true rfl), (Nat.le_of_ble_eq_true rfl), (Nat.le_of_ble_eq_true rfl), (Nat.le_of_ble_eq_true rfl)⟩ (fun v h1 hq => ?_)
                obtain ⟨rfl, rfl⟩ := hq
                refine z_last F dX6_write_104 mA_13 rfl rfl (show k < 40 by omega) (Nat.le_of_ble_eq_true rfl) ?_
                refine z_heap _ (ma_13) ?_
                refine z_aload_n F dX6_write_105 rfl rfl ?_
                refine z_bipush (v := 110) F dX6_write_106 rfl ?_
                refine z_aload_n F dX6_write_108 rfl rfl ?_
                refine z_getf F vF_X6_74 dX6_write_109 mO_at rfl ?_
                refine z_iconst (v := 1) F dX6_write_112 rfl ?_
                refine z_iald F dX6_write_113 mA_39 rfl rfl (show 1 < 60 by decide) (Nat.le_of_ble_eq_true rfl) ?_
                refine z_aload_n F dX6_write_114 rfl rfl ?_
                refine z_getf F vF_X6_74 dX6_write_115 mO_at rfl ?_
                refine z_iconst (v := 2) F dX6_write_118 rfl ?_
                refine z_iald F dX6_write_119 mA_39 rfl rfl (show 2 < 60 by decide) (Nat.le_of_ble_eq_true rfl) ?_
                refine z_callV F z_nwOK wL_good (c_X6_threeSaid (S := uAL S 13 (va_up (sAL S 13) k (numL (fun i => nI (sAN S 39 (3 + i))) (sAN S 10 k)))) (x := 110) (y := sAN S 39 1) (w := sAN S 39 2) (show sN S 40 < 900 by omega) (by decide) (by have := R 1; omega) (by have := R 2; omega)) mO_at rfl vI_X6_threeSaid vM_X6_176 vV_X6_threeSaid vL_X6_threeSaid rfl dX6_write_120 rfl rfl (Nat.le_of_ble_eq_true rfl) ⟨(Nat.le_of_ble_eq_true rfl), (Nat.le_of_ble_eq_true rfl), (Nat.le_of_ble_eq_true rfl), (Nat.le_of_ble_eq_true rfl)⟩ (fun v h1 hq => ?_)
                obtain ⟨rfl, rfl⟩ := hq
                refine z_iconst (v := 0) F dX6_write_123 rfl ?_
                exact z_iret F hr dX6_write_124 rfl (Nat.le_of_ble_eq_true rfl) (Nat.le_of_ble_eq_true rfl) (⟨by rw [hs]; try rfl, by rw [hs]; try rfl⟩)
              · have hd : sB S 5 = false := z_b0.mp c82
                have hs : sv46 S = (34, S) := by unfold sv46; rw [if_neg h3, hF]; show (if _ then _ else _) = _; rw [if_neg hjp, if_neg (not_not_intro hn), if_neg hv, if_pos hd]
                refine z_bipush (v := 34) F dX6_write_85 rfl ?_
                exact z_iret F hr dX6_write_87 rfl (Nat.le_of_ble_eq_true rfl) (Nat.le_of_ble_eq_true rfl) (⟨by rw [hs]; try rfl, by rw [hs]; try rfl⟩)
            · have hv : sN S 2 < sAN S 12 k := by have := mt (nI_leI (a := sAN S 12 k) (b := sN S 2) (by have := V.2.2.2.2 k; omega) (by have := V.2.1; omega)).mpr c72; omega
              have hs : sv46 S = (51, S) := by unfold sv46; rw [if_neg h3, hF]; show (if _ then _ else _) = _; rw [if_neg hjp, if_neg (not_not_intro hn), if_pos hv]
              refine z_bipush (v := 51) F dX6_write_75 rfl ?_
              exact z_iret F hr dX6_write_77 rfl (Nat.le_of_ble_eq_true rfl) (Nat.le_of_ble_eq_true rfl) (⟨by rw [hs]; try rfl, by rw [hs]; try rfl⟩)
          · have hn : ¬ sN S 38 - 1 - 2 = sAN S 10 k := fun e => c56 (by rw [e])
            have hs : sv46 S = (19, S) := by unfold sv46; rw [if_neg h3, hF]; show (if _ then _ else _) = _; rw [if_neg hjp, if_pos hn]
            refine z_bipush (v := 19) F dX6_write_59 rfl ?_
            exact z_iret F hr dX6_write_61 rfl (Nat.le_of_ble_eq_true rfl) (Nat.le_of_ble_eq_true rfl) (⟨by rw [hs]; try rfl, by rw [hs]; try rfl⟩)
        · have hp : sAB S 16 k = true := z_b1 c41
          have hs : sv46 S = (49, S) := by unfold sv46; rw [if_neg h3, hF]; show (if _ then _ else _) = _; rw [if_pos (by rw [hp]; simp)]
          refine z_bipush (v := 49) F dX6_write_44 rfl ?_
          exact z_iret F hr dX6_write_46 rfl (Nat.le_of_ble_eq_true rfl) (Nat.le_of_ble_eq_true rfl) (⟨by rw [hs]; try rfl, by rw [hs]; try rfl⟩)
  · have h3 : sN S 38 - 1 < 3 := by have := mt (nI_leI (a := 3) (b := sN S 38 - 1) (by decide) (by omega)).mpr c2; omega
    have hs : sv46 S = (19, S) := if_pos h3
    refine z_bipush (v := 19) F dX6_write_5 rfl ?_
    exact z_iret F hr dX6_write_7 rfl (Nat.le_of_ble_eq_true rfl) (Nat.le_of_ble_eq_true rfl) (⟨by rw [hs]; try rfl, by rw [hs]; try rfl⟩)
end
section
def ctlV (S : z_S) (k : Nat) : Int64 := if sAN S 39 3 = 2 then valS S k else if sAN S 39 3 = 3 then numL (fun i => nI (sAN S 39 (4 + i))) (sAN S 10 k) else 0
def sv47 (S : z_S) : Nat × z_S :=
  if sN S 1 = 1 then (127, S) else if sN S 38 - 1 < 3 then (19, S) else
  match hereF S (toldN S 1) with
  | none => (49, S)
  | some k => if sAB S 17 k = true then (49, S) else if sN S 2 < sAN S 12 k then (51, S) else if 3 < sAN S 39 3 then (49, S)
    else if ¬ sN S 38 - 1 = 3 + (if sAN S 39 3 = 3 then sAN S 10 k else 0) then (19, S)
    else (0, sayS (sayS (sayS (sayS (uAL (uAB S 14 (va_up (sAB S 14) k (decide (0 < sAN S 39 3)))) 15 (va_up (sAL S 15) k (ctlV S k))) 111) (sAN S 39 1)) (sAN S 39 2)) (sAN S 39 3))

set_option maxRecDepth 100000 in
set_option maxHeartbeats 1000000 in
theorem c_X6_controls {c : Nat → z_E} {S : z_S} {o : Nat → Int64} {d : z_H} (R : rowOK S) (W : idsOK S) (V : numsOK S) (hM : sN S 38 ≤ 60) (hM1 : 1 ≤ sN S 38) (hA : sN S 40 = 0) : z_K yX6_controls cX6_controls 6 (some .int) 2 0 0 [.ref 11, .int (nI (sN S 38 - 1))] (HP c (mfun S o) d) (fun v h' => v = some (.int (nI (sv47 S).1)) ∧ h' = (HP c (mfun ((sv47 S).2) o) d)) := by
  refine z_met vI_X6_controls (Nat.le_of_ble_eq_true rfl) (fun G X F hr hnm => ?_)
  refine z_aload_n F dX6_controls_0 rfl rfl ?_
  refine z_getf F vF_X6_7 dX6_controls_1 mO_at rfl ?_
  refine z_iconst (v := 1) F dX6_controls_4 rfl ?_
  refine z_icmp_ne (tgt := 11) F dX6_controls_5 (by decide) (fun c5 => ?_) (fun c5 => ?_)
  · have hp1 : ¬ sN S 1 = 1 := fun e => c5 (by rw [e]; rfl)
    refine z_iload_n F dX6_controls_11 rfl ?_
    refine z_iconst (v := 3) F dX6_controls_12 rfl ?_
    refine z_icmp_ge (tgt := 19) F dX6_controls_13 (by decide) (fun c13 => ?_) (fun c13 => ?_)
    · have h3 : ¬ sN S 38 - 1 < 3 := by have := (nI_leI (a := 3) (b := sN S 38 - 1) (by decide) (by omega)).mp c13; omega
      refine z_aload_n F dX6_controls_19 rfl rfl ?_
      refine z_aload_n F dX6_controls_20 rfl rfl ?_
      refine z_iconst (v := 1) F dX6_controls_21 rfl ?_
      refine z_callV F z_nwOK wL_good (c_X6_told (a := 1) R (by decide)) mO_at rfl vI_X6_told vM_X6_156 vV_X6_told vL_X6_told rfl dX6_controls_22 rfl rfl (Nat.le_of_ble_eq_true rfl) ⟨(Nat.le_of_ble_eq_true rfl), (Nat.le_of_ble_eq_true rfl), (Nat.le_of_ble_eq_true rfl), (Nat.le_of_ble_eq_true rfl)⟩ (fun v h1 hq => ?_)
      obtain ⟨rfl, rfl⟩ := hq
      refine z_callV F z_nwOK wL_good (c_X6_find W.1) mO_at rfl vI_X6_find vM_X6_99 vV_X6_find vL_X6_find rfl dX6_controls_25 rfl rfl (Nat.le_of_ble_eq_true rfl) ⟨(Nat.le_of_ble_eq_true rfl), (Nat.le_of_ble_eq_true rfl), (Nat.le_of_ble_eq_true rfl), (Nat.le_of_ble_eq_true rfl)⟩ (fun v h1 hq => ?_)
      obtain ⟨rfl, rfl⟩ := hq
      refine z_istore_n F dX6_controls_28 (Nat.le_of_ble_eq_true rfl) ?_
      refine z_aload_n F dX6_controls_29 rfl rfl ?_
      refine z_iload_n F dX6_controls_30 rfl ?_
      refine z_callV F z_nwOK wL_good (c_X6_isHere W V) mO_at rfl vI_X6_isHere vM_X6_180 vV_X6_isHere vL_X6_isHere rfl dX6_controls_31 rfl rfl (Nat.le_of_ble_eq_true rfl) ⟨(Nat.le_of_ble_eq_true rfl), (Nat.le_of_ble_eq_true rfl), (Nat.le_of_ble_eq_true rfl), (Nat.le_of_ble_eq_true rfl)⟩ (fun v h1 hq => ?_)
      obtain ⟨rfl, rfl⟩ := hq
      rcases here_cases S (toldN S 1) with ⟨hF, h2⟩ | ⟨k, hr', hF, h2, hk⟩
      · rw [h2]
        have hs : sv47 S = (49, S) := by unfold sv47; rw [if_neg hp1, if_neg h3, hF]
        refine z_if_eq (tgt := 46) F dX6_controls_34 (by decide) (fun c34 => ?_) (fun c34 => absurd rfl c34)
        refine z_bipush (v := 49) F dX6_controls_46 rfl ?_
        exact z_iret F hr dX6_controls_48 rfl (Nat.le_of_ble_eq_true rfl) (Nat.le_of_ble_eq_true rfl) (⟨by rw [hs]; try rfl, by rw [hs]; try rfl⟩)
      · rw [hr', h2]
        have h40 := W.1
        have hl := (W.2 k hk).1
        have hr3 := R 3
        refine z_if_eq (tgt := 46) F dX6_controls_34 (by decide) (fun c34 => absurd c34 (by decide)) (fun c34 => ?_)
        refine z_aload_n F dX6_controls_37 rfl rfl ?_
        refine z_getf F vF_X6_47 dX6_controls_38 mO_at rfl ?_
        refine z_iload_n F dX6_controls_41 rfl ?_
        refine z_zald (j := k) F dX6_controls_42 mA_17 rfl rfl (show k < 40 by omega) (Nat.le_of_ble_eq_true rfl) ?_
        refine z_if_eq (tgt := 49) F dX6_controls_43 (by decide) (fun c43 => ?_) (fun c43 => ?_)
        · have hj : ¬ sAB S 17 k = true := by rw [z_b0.mp c43]; decide
          refine z_aload_n F dX6_controls_49 rfl rfl ?_
          refine z_getf F vF_X6_30 dX6_controls_50 mO_at rfl ?_
          refine z_iload_n F dX6_controls_53 rfl ?_
          refine z_iald (j := k) F dX6_controls_54 mA_12 rfl rfl (show k < 40 by omega) (Nat.le_of_ble_eq_true rfl) ?_
          refine z_aload_n F dX6_controls_55 rfl rfl ?_
          refine z_getf F vF_X6_112 dX6_controls_56 mO_at rfl ?_
          refine z_icmp_le (tgt := 65) F dX6_controls_59 (by decide) (fun c59 => ?_) (fun c59 => ?_)
          · have hv : ¬ sN S 2 < sAN S 12 k := by have := (nI_leI (by have := V.2.2.2.2 k; omega) (by have := V.2.1; omega)).mp c59; omega
            refine z_aload_n F dX6_controls_65 rfl rfl ?_
            refine z_getf F vF_X6_74 dX6_controls_66 mO_at rfl ?_
            refine z_iconst (v := 3) F dX6_controls_69 rfl ?_
            refine z_iald (j := 3) F dX6_controls_70 mA_39 rfl rfl (show 3 < 60 by decide) (Nat.le_of_ble_eq_true rfl) ?_
            refine z_istore_n F dX6_controls_71 (Nat.le_of_ble_eq_true rfl) ?_
            refine z_iload_n F dX6_controls_72 rfl ?_
            refine z_iconst (v := 3) F dX6_controls_73 rfl ?_
            refine z_icmp_le (tgt := 80) F dX6_controls_74 (by decide) (fun c74 => ?_) (fun c74 => ?_)
            · have h33 : ¬ 3 < sAN S 39 3 := by have := (nI_leI (b := 3) (by omega) (by decide)).mp c74; omega
              refine z_iload_n F dX6_controls_80 rfl ?_
              refine z_iload_n F dX6_controls_81 rfl ?_
              refine z_iconst (v := 3) F dX6_controls_82 rfl ?_
              refine z_icmp_ne (tgt := 97) F dX6_controls_83 (by decide) (fun c83 => ?_) (fun c83 => ?_)
              · have hk3 : ¬ sAN S 39 3 = 3 := fun e => c83 (by rw [e]; rfl)
                have he : (if sAN S 39 3 = 3 then sAN S 10 k else 0) = 0 := if_neg hk3
                refine z_iconst (v := 3) F dX6_controls_97 rfl ?_
                refine z_icmp_eq (tgt := 104) F dX6_controls_98 (by decide) (fun c98 => ?_) (fun c98 => ?_)
                · have hn : sN S 38 - 1 = 3 + (if sAN S 39 3 = 3 then sAN S 10 k else 0) := by rw [he]; first | exact (nI_eq (by omega) (by omega)).mp (c98.trans (nI_add 3 _)) | exact (nI_eq (b := 3) (by omega) (by omega)).mp c98
                  have hs : sv47 S = (0, sayS (sayS (sayS (sayS (uAL (uAB S 14 (va_up (sAB S 14) k (decide (0 < sAN S 39 3)))) 15 (va_up (sAL S 15) k (ctlV S k))) 111) (sAN S 39 1)) (sAN S 39 2)) (sAN S 39 3)) := by unfold sv47; rw [if_neg hp1, if_neg h3, hF]; show (if _ then _ else _) = _; rw [if_neg hj, if_neg hv, if_neg h33, if_neg (not_not_intro hn)]
                  refine z_iload_n F dX6_controls_104 rfl ?_
                  refine z_iconst (v := 1) F dX6_controls_105 rfl ?_
                  refine z_icmp_ne (tgt := 113) F dX6_controls_106 (by decide) (fun c106 => ?_) (fun c106 => ?_)
                  · have e1 : ¬ sAN S 39 3 = 1 := fun e => c106 (by rw [e]; rfl)
                    refine z_iload_n F dX6_controls_113 rfl ?_
                    refine z_iconst (v := 2) F dX6_controls_114 rfl ?_
                    refine z_icmp_ne (tgt := 126) F dX6_controls_115 (by decide) (fun c115 => ?_) (fun c115 => ?_)
                    · have e2 : ¬ sAN S 39 3 = 2 := fun e => c115 (by rw [e]; rfl)
                      refine z_iload_n F dX6_controls_126 rfl ?_
                      refine z_iconst (v := 3) F dX6_controls_127 rfl ?_
                      refine z_icmp_ne (tgt := 145) F dX6_controls_128 (by decide) (fun c128 => ?_) (fun c128 => ?_)
                      · have e3 : ¬ sAN S 39 3 = 3 := fun e => c128 (by rw [e]; rfl)
                        have hV : (0 : Int64) = ctlV S k := by unfold ctlV; rw [if_neg e2, if_neg e3]
                        refine z_lconst (v := 0) F dX6_controls_145 rfl ?_
                        rw [show (0 : Int64) = ctlV S k from hV]
                        refine z_lstore F dX6_controls_146 (Nat.le_of_ble_eq_true rfl) ?_
                        refine z_aload_n F dX6_controls_148 rfl rfl ?_
                        refine z_getf F vF_X6_37 dX6_controls_149 mO_at rfl ?_
                        refine z_iload_n F dX6_controls_152 rfl ?_
                        refine z_iload_n F dX6_controls_153 rfl ?_
                        refine z_if_le (tgt := 161) F dX6_controls_154 (by decide) (fun c154 => ?_) (fun c154 => ?_)
                        · have hz : decide (0 < sAN S 39 3) = false := decide_eq_false (by have := (nI_leI (b := 0) (by omega) (by decide)).mp c154; omega)
                          rw [hz] at hs
                          refine z_iconst (v := 0) F dX6_controls_161 rfl ?_
                          refine z_zast (j := k) F dX6_controls_162 mA_14 rfl rfl (show k < 40 by omega) (Nat.le_of_ble_eq_true rfl) ?_
                          refine z_heap _ (ma_14 (v := false)) ?_
                          refine z_aload_n F dX6_controls_163 rfl rfl ?_
                          refine z_getf F vF_X6_41 dX6_controls_164 mO_at rfl ?_
                          refine z_iload_n F dX6_controls_167 rfl ?_
                          refine z_lload F dX6_controls_168 rfl ?_
                          refine z_last (j := k) F dX6_controls_170 mA_15 rfl rfl (show k < 40 by omega) (Nat.le_of_ble_eq_true rfl) ?_
                          refine z_heap _ (ma_15) ?_
                          refine z_aload_n F dX6_controls_171 rfl rfl ?_
                          refine z_bipush (v := 111) F dX6_controls_172 rfl ?_
                          refine z_aload_n F dX6_controls_174 rfl rfl ?_
                          refine z_getf F vF_X6_74 dX6_controls_175 mO_at rfl ?_
                          refine z_iconst (v := 1) F dX6_controls_178 rfl ?_
                          refine z_iald (j := 1) F dX6_controls_179 mA_39 rfl rfl (show 1 < 60 by decide) (Nat.le_of_ble_eq_true rfl) ?_
                          refine z_aload_n F dX6_controls_180 rfl rfl ?_
                          refine z_getf F vF_X6_74 dX6_controls_181 mO_at rfl ?_
                          refine z_iconst (v := 2) F dX6_controls_184 rfl ?_
                          refine z_iald (j := 2) F dX6_controls_185 mA_39 rfl rfl (show 2 < 60 by decide) (Nat.le_of_ble_eq_true rfl) ?_
                          refine z_callV F z_nwOK wL_good (c_X6_threeSaid (x := 111) (y := sAN S 39 1) (w := sAN S 39 2) (show sN S 40 < 900 by omega) (by decide) (by have := R 1; omega) (by have := R 2; omega)) mO_at rfl vI_X6_threeSaid vM_X6_176 vV_X6_threeSaid vL_X6_threeSaid rfl dX6_controls_186 rfl rfl (Nat.le_of_ble_eq_true rfl) ⟨(Nat.le_of_ble_eq_true rfl), (Nat.le_of_ble_eq_true rfl), (Nat.le_of_ble_eq_true rfl), (Nat.le_of_ble_eq_true rfl)⟩ (fun v h1 hq => ?_)
                          obtain ⟨rfl, rfl⟩ := hq
                          refine z_aload_n F dX6_controls_189 rfl rfl ?_
                          refine z_iload_n F dX6_controls_190 rfl ?_
                          refine z_callV F z_nwOK wL_good (c_X6_say (b := sAN S 39 3) (show sN S 40 + 1 + 1 + 1 < 1000 by omega) (by omega)) mO_at rfl vI_X6_say vM_X6_131 vV_X6_say vL_X6_say rfl dX6_controls_191 rfl rfl (Nat.le_of_ble_eq_true rfl) ⟨(Nat.le_of_ble_eq_true rfl), (Nat.le_of_ble_eq_true rfl), (Nat.le_of_ble_eq_true rfl), (Nat.le_of_ble_eq_true rfl)⟩ (fun v h1 hq => ?_)
                          obtain ⟨rfl, rfl⟩ := hq
                          refine z_iconst (v := 0) F dX6_controls_194 rfl ?_
                          exact z_iret F hr dX6_controls_195 rfl (Nat.le_of_ble_eq_true rfl) (Nat.le_of_ble_eq_true rfl) (⟨by rw [hs]; try rfl, by rw [hs]; try rfl⟩)
                        · have hz : decide (0 < sAN S 39 3) = true := decide_eq_true (by have := mt (nI_leI (a := sAN S 39 3) (b := 0) (by omega) (by decide)).mpr c154; omega)
                          rw [hz] at hs
                          refine z_iconst (v := 1) F dX6_controls_157 rfl ?_
                          refine z_goto (tgt := 162) F dX6_controls_158 (by decide) ?_
                          refine z_zast (j := k) F dX6_controls_162 mA_14 rfl rfl (show k < 40 by omega) (Nat.le_of_ble_eq_true rfl) ?_
                          refine z_heap _ (ma_14 (v := true)) ?_
                          refine z_aload_n F dX6_controls_163 rfl rfl ?_
                          refine z_getf F vF_X6_41 dX6_controls_164 mO_at rfl ?_
                          refine z_iload_n F dX6_controls_167 rfl ?_
                          refine z_lload F dX6_controls_168 rfl ?_
                          refine z_last (j := k) F dX6_controls_170 mA_15 rfl rfl (show k < 40 by omega) (Nat.le_of_ble_eq_true rfl) ?_
                          refine z_heap _ (ma_15) ?_
                          refine z_aload_n F dX6_controls_171 rfl rfl ?_
                          refine z_bipush (v := 111) F dX6_controls_172 rfl ?_
                          refine z_aload_n F dX6_controls_174 rfl rfl ?_
                          refine z_getf F vF_X6_74 dX6_controls_175 mO_at rfl ?_
                          refine z_iconst (v := 1) F dX6_controls_178 rfl ?_
                          refine z_iald (j := 1) F dX6_controls_179 mA_39 rfl rfl (show 1 < 60 by decide) (Nat.le_of_ble_eq_true rfl) ?_
                          refine z_aload_n F dX6_controls_180 rfl rfl ?_
                          refine z_getf F vF_X6_74 dX6_controls_181 mO_at rfl ?_
                          refine z_iconst (v := 2) F dX6_controls_184 rfl ?_
                          refine z_iald (j := 2) F dX6_controls_185 mA_39 rfl rfl (show 2 < 60 by decide) (Nat.le_of_ble_eq_true rfl) ?_
                          refine z_callV F z_nwOK wL_good (c_X6_threeSaid (x := 111) (y := sAN S 39 1) (w := sAN S 39 2) (show sN S 40 < 900 by omega) (by decide) (by have := R 1; omega) (by have := R 2; omega)) mO_at rfl vI_X6_threeSaid vM_X6_176 vV_X6_threeSaid vL_X6_threeSaid rfl dX6_controls_186 rfl rfl (Nat.le_of_ble_eq_true rfl) ⟨(Nat.le_of_ble_eq_true rfl), (Nat.le_of_ble_eq_true rfl), (Nat.le_of_ble_eq_true rfl), (Nat.le_of_ble_eq_true rfl)⟩ (fun v h1 hq => ?_)
                          obtain ⟨rfl, rfl⟩ := hq
                          refine z_aload_n F dX6_controls_189 rfl rfl ?_
                          refine z_iload_n F dX6_controls_190 rfl ?_
                          refine z_callV F z_nwOK wL_good (c_X6_say (b := sAN S 39 3) (show sN S 40 + 1 + 1 + 1 < 1000 by omega) (by omega)) mO_at rfl vI_X6_say vM_X6_131 vV_X6_say vL_X6_say rfl dX6_controls_191 rfl rfl (Nat.le_of_ble_eq_true rfl) ⟨(Nat.le_of_ble_eq_true rfl), (Nat.le_of_ble_eq_true rfl), (Nat.le_of_ble_eq_true rfl), (Nat.le_of_ble_eq_true rfl)⟩ (fun v h1 hq => ?_)
                          obtain ⟨rfl, rfl⟩ := hq
                          refine z_iconst (v := 0) F dX6_controls_194 rfl ?_
                          exact z_iret F hr dX6_controls_195 rfl (Nat.le_of_ble_eq_true rfl) (Nat.le_of_ble_eq_true rfl) (⟨by rw [hs]; try rfl, by rw [hs]; try rfl⟩)
                      · have e3 : sAN S 39 3 = 3 := (nI_eq (b := 3) (by omega) (by decide)).mp c128
                        have hV : numL (fun i => nI (sAN S 39 (4 + i))) (sAN S 10 k) = ctlV S k := by unfold ctlV; rw [if_neg e2, if_pos e3]
                        have hn60 : 4 + sAN S 10 k ≤ 60 := by omega
                        refine z_aload_n F dX6_controls_131 rfl rfl ?_
                        refine z_iconst (v := 4) F dX6_controls_132 rfl ?_
                        refine z_aload_n F dX6_controls_133 rfl rfl ?_
                        refine z_getf F vF_X6_24 dX6_controls_134 mO_at rfl ?_
                        refine z_iload_n F dX6_controls_137 rfl ?_
                        refine z_iald (j := k) F dX6_controls_138 mA_10 rfl rfl (show k < 40 by omega) (Nat.le_of_ble_eq_true rfl) ?_
                        refine z_callV F z_nwOK wL_good (c_X6_number (a := 4) (n := sAN S 10 k) hn60) mO_at rfl vI_X6_number vM_X6_184 vV_X6_number vL_X6_number rfl dX6_controls_139 rfl rfl (Nat.le_of_ble_eq_true rfl) ⟨(Nat.le_of_ble_eq_true rfl), (Nat.le_of_ble_eq_true rfl), (Nat.le_of_ble_eq_true rfl), (Nat.le_of_ble_eq_true rfl)⟩ (fun v h1 hq => ?_)
                        obtain ⟨rfl, rfl⟩ := hq
                        refine z_goto (tgt := 146) F dX6_controls_142 (by decide) ?_
                        rw [show numL (fun i => nI (sAN S 39 (4 + i))) (sAN S 10 k) = ctlV S k from hV]
                        refine z_lstore F dX6_controls_146 (Nat.le_of_ble_eq_true rfl) ?_
                        refine z_aload_n F dX6_controls_148 rfl rfl ?_
                        refine z_getf F vF_X6_37 dX6_controls_149 mO_at rfl ?_
                        refine z_iload_n F dX6_controls_152 rfl ?_
                        refine z_iload_n F dX6_controls_153 rfl ?_
                        refine z_if_le (tgt := 161) F dX6_controls_154 (by decide) (fun c154 => ?_) (fun c154 => ?_)
                        · have hz : decide (0 < sAN S 39 3) = false := decide_eq_false (by have := (nI_leI (b := 0) (by omega) (by decide)).mp c154; omega)
                          rw [hz] at hs
                          refine z_iconst (v := 0) F dX6_controls_161 rfl ?_
                          refine z_zast (j := k) F dX6_controls_162 mA_14 rfl rfl (show k < 40 by omega) (Nat.le_of_ble_eq_true rfl) ?_
                          refine z_heap _ (ma_14 (v := false)) ?_
                          refine z_aload_n F dX6_controls_163 rfl rfl ?_
                          refine z_getf F vF_X6_41 dX6_controls_164 mO_at rfl ?_
                          refine z_iload_n F dX6_controls_167 rfl ?_
                          refine z_lload F dX6_controls_168 rfl ?_
                          refine z_last (j := k) F dX6_controls_170 mA_15 rfl rfl (show k < 40 by omega) (Nat.le_of_ble_eq_true rfl) ?_
                          refine z_heap _ (ma_15) ?_
                          refine z_aload_n F dX6_controls_171 rfl rfl ?_
                          refine z_bipush (v := 111) F dX6_controls_172 rfl ?_
                          refine z_aload_n F dX6_controls_174 rfl rfl ?_
                          refine z_getf F vF_X6_74 dX6_controls_175 mO_at rfl ?_
                          refine z_iconst (v := 1) F dX6_controls_178 rfl ?_
                          refine z_iald (j := 1) F dX6_controls_179 mA_39 rfl rfl (show 1 < 60 by decide) (Nat.le_of_ble_eq_true rfl) ?_
                          refine z_aload_n F dX6_controls_180 rfl rfl ?_
                          refine z_getf F vF_X6_74 dX6_controls_181 mO_at rfl ?_
                          refine z_iconst (v := 2) F dX6_controls_184 rfl ?_
                          refine z_iald (j := 2) F dX6_controls_185 mA_39 rfl rfl (show 2 < 60 by decide) (Nat.le_of_ble_eq_true rfl) ?_
                          refine z_callV F z_nwOK wL_good (c_X6_threeSaid (x := 111) (y := sAN S 39 1) (w := sAN S 39 2) (show sN S 40 < 900 by omega) (by decide) (by have := R 1; omega) (by have := R 2; omega)) mO_at rfl vI_X6_threeSaid vM_X6_176 vV_X6_threeSaid vL_X6_threeSaid rfl dX6_controls_186 rfl rfl (Nat.le_of_ble_eq_true rfl) ⟨(Nat.le_of_ble_eq_true rfl), (Nat.le_of_ble_eq_true rfl), (Nat.le_of_ble_eq_true rfl), (Nat.le_of_ble_eq_true rfl)⟩ (fun v h1 hq => ?_)
                          obtain ⟨rfl, rfl⟩ := hq
                          refine z_aload_n F dX6_controls_189 rfl rfl ?_
                          refine z_iload_n F dX6_controls_190 rfl ?_
                          refine z_callV F z_nwOK wL_good (c_X6_say (b := sAN S 39 3) (show sN S 40 + 1 + 1 + 1 < 1000 by omega) (by omega)) mO_at rfl vI_X6_say vM_X6_131 vV_X6_say vL_X6_say rfl dX6_controls_191 rfl rfl (Nat.le_of_ble_eq_true rfl) ⟨(Nat.le_of_ble_eq_true rfl), (Nat.le_of_ble_eq_true rfl), (Nat.le_of_ble_eq_true rfl), (Nat.le_of_ble_eq_true rfl)⟩ (fun v h1 hq => ?_)
                          obtain ⟨rfl, rfl⟩ := hq
                          refine z_iconst (v := 0) F dX6_controls_194 rfl ?_
                          exact z_iret F hr dX6_controls_195 rfl (Nat.le_of_ble_eq_true rfl) (Nat.le_of_ble_eq_true rfl) (⟨by rw [hs]; try rfl, by rw [hs]; try rfl⟩)
                        · have hz : decide (0 < sAN S 39 3) = true := decide_eq_true (by have := mt (nI_leI (a := sAN S 39 3) (b := 0) (by omega) (by decide)).mpr c154; omega)
                          rw [hz] at hs
                          refine z_iconst (v := 1) F dX6_controls_157 rfl ?_
                          refine z_goto (tgt := 162) F dX6_controls_158 (by decide) ?_
                          refine z_zast (j := k) F dX6_controls_162 mA_14 rfl rfl (show k < 40 by omega) (Nat.le_of_ble_eq_true rfl) ?_
                          refine z_heap _ (ma_14 (v := true)) ?_
                          refine z_aload_n F dX6_controls_163 rfl rfl ?_
                          refine z_getf F vF_X6_41 dX6_controls_164 mO_at rfl ?_
                          refine z_iload_n F dX6_controls_167 rfl ?_
                          refine z_lload F dX6_controls_168 rfl ?_
                          refine z_last (j := k) F dX6_controls_170 mA_15 rfl rfl (show k < 40 by omega) (Nat.le_of_ble_eq_true rfl) ?_
                          refine z_heap _ (ma_15) ?_
                          refine z_aload_n F dX6_controls_171 rfl rfl ?_
                          refine z_bipush (v := 111) F dX6_controls_172 rfl ?_
                          refine z_aload_n F dX6_controls_174 rfl rfl ?_
                          refine z_getf F vF_X6_74 dX6_controls_175 mO_at rfl ?_
                          refine z_iconst (v := 1) F dX6_controls_178 rfl ?_
                          refine z_iald (j := 1) F dX6_controls_179 mA_39 rfl rfl (show 1 < 60 by decide) (Nat.le_of_ble_eq_true rfl) ?_
                          refine z_aload_n F dX6_controls_180 rfl rfl ?_
                          refine z_getf F vF_X6_74 dX6_controls_181 mO_at rfl ?_
                          refine z_iconst (v := 2) F dX6_controls_184 rfl ?_
                          refine z_iald (j := 2) F dX6_controls_185 mA_39 rfl rfl (show 2 < 60 by decide) (Nat.le_of_ble_eq_true rfl) ?_
                          refine z_callV F z_nwOK wL_good (c_X6_threeSaid (x := 111) (y := sAN S 39 1) (w := sAN S 39 2) (show sN S 40 < 900 by omega) (by decide) (by have := R 1; omega) (by have := R 2; omega)) mO_at rfl vI_X6_threeSaid vM_X6_176 vV_X6_threeSaid vL_X6_threeSaid rfl dX6_controls_186 rfl rfl (Nat.le_of_ble_eq_true rfl) ⟨(Nat.le_of_ble_eq_true rfl), (Nat.le_of_ble_eq_true rfl), (Nat.le_of_ble_eq_true rfl), (Nat.le_of_ble_eq_true rfl)⟩ (fun v h1 hq => ?_)
                          obtain ⟨rfl, rfl⟩ := hq
                          refine z_aload_n F dX6_controls_189 rfl rfl ?_
                          refine z_iload_n F dX6_controls_190 rfl ?_
                          refine z_callV F z_nwOK wL_good (c_X6_say (b := sAN S 39 3) (show sN S 40 + 1 + 1 + 1 < 1000 by omega) (by omega)) mO_at rfl vI_X6_say vM_X6_131 vV_X6_say vL_X6_say rfl dX6_controls_191 rfl rfl (Nat.le_of_ble_eq_true rfl) ⟨(Nat.le_of_ble_eq_true rfl), (Nat.le_of_ble_eq_true rfl), (Nat.le_of_ble_eq_true rfl), (Nat.le_of_ble_eq_true rfl)⟩ (fun v h1 hq => ?_)
                          obtain ⟨rfl, rfl⟩ := hq
                          refine z_iconst (v := 0) F dX6_controls_194 rfl ?_
                          exact z_iret F hr dX6_controls_195 rfl (Nat.le_of_ble_eq_true rfl) (Nat.le_of_ble_eq_true rfl) (⟨by rw [hs]; try rfl, by rw [hs]; try rfl⟩)
                    · have e2 : sAN S 39 3 = 2 := (nI_eq (b := 2) (by omega) (by decide)).mp c115
                      have hV : numL (fun j => nI (octS S k j)) (sAN S 10 k) = ctlV S k := by unfold ctlV; rw [if_pos e2]; rfl
                      refine z_aload_n F dX6_controls_118 rfl rfl ?_
                      refine z_iload_n F dX6_controls_119 rfl ?_
                      refine z_callV F z_nwOK wL_good (c_X6_valueOf W hk) mO_at rfl vI_X6_valueOf vM_X6_124 vV_X6_valueOf vL_X6_valueOf rfl dX6_controls_120 rfl rfl (Nat.le_of_ble_eq_true rfl) ⟨(Nat.le_of_ble_eq_true rfl), (Nat.le_of_ble_eq_true rfl), (Nat.le_of_ble_eq_true rfl), (Nat.le_of_ble_eq_true rfl)⟩ (fun v h1 hq => ?_)
                      obtain ⟨rfl, rfl⟩ := hq
                      refine z_goto (tgt := 146) F dX6_controls_123 (by decide) ?_
                      rw [show numL (fun j => nI (octS S k j)) (sAN S 10 k) = ctlV S k from hV]
                      refine z_lstore F dX6_controls_146 (Nat.le_of_ble_eq_true rfl) ?_
                      refine z_aload_n F dX6_controls_148 rfl rfl ?_
                      refine z_getf F vF_X6_37 dX6_controls_149 mO_at rfl ?_
                      refine z_iload_n F dX6_controls_152 rfl ?_
                      refine z_iload_n F dX6_controls_153 rfl ?_
                      refine z_if_le (tgt := 161) F dX6_controls_154 (by decide) (fun c154 => ?_) (fun c154 => ?_)
                      · have hz : decide (0 < sAN S 39 3) = false := decide_eq_false (by have := (nI_leI (b := 0) (by omega) (by decide)).mp c154; omega)
                        rw [hz] at hs
                        refine z_iconst (v := 0) F dX6_controls_161 rfl ?_
                        refine z_zast (j := k) F dX6_controls_162 mA_14 rfl rfl (show k < 40 by omega) (Nat.le_of_ble_eq_true rfl) ?_
                        refine z_heap _ (ma_14 (v := false)) ?_
                        refine z_aload_n F dX6_controls_163 rfl rfl ?_
                        refine z_getf F vF_X6_41 dX6_controls_164 mO_at rfl ?_
                        refine z_iload_n F dX6_controls_167 rfl ?_
                        refine z_lload F dX6_controls_168 rfl ?_
                        refine z_last (j := k) F dX6_controls_170 mA_15 rfl rfl (show k < 40 by omega) (Nat.le_of_ble_eq_true rfl) ?_
                        refine z_heap _ (ma_15) ?_
                        refine z_aload_n F dX6_controls_171 rfl rfl ?_
                        refine z_bipush (v := 111) F dX6_controls_172 rfl ?_
                        refine z_aload_n F dX6_controls_174 rfl rfl ?_
                        refine z_getf F vF_X6_74 dX6_controls_175 mO_at rfl ?_
                        refine z_iconst (v := 1) F dX6_controls_178 rfl ?_
                        refine z_iald (j := 1) F dX6_controls_179 mA_39 rfl rfl (show 1 < 60 by decide) (Nat.le_of_ble_eq_true rfl) ?_
                        refine z_aload_n F dX6_controls_180 rfl rfl ?_
                        refine z_getf F vF_X6_74 dX6_controls_181 mO_at rfl ?_
                        refine z_iconst (v := 2) F dX6_controls_184 rfl ?_
                        refine z_iald (j := 2) F dX6_controls_185 mA_39 rfl rfl (show 2 < 60 by decide) (Nat.le_of_ble_eq_true rfl) ?_
                        refine z_callV F z_nwOK wL_good (c_X6_threeSaid (x := 111) (y := sAN S 39 1) (w := sAN S 39 2) (show sN S 40 < 900 by omega) (by decide) (by have := R 1; omega) (by have := R 2; omega)) mO_at rfl vI_X6_threeSaid vM_X6_176 vV_X6_threeSaid vL_X6_threeSaid rfl dX6_controls_186 rfl rfl (Nat.le_of_ble_eq_true rfl) ⟨(Nat.le_of_ble_eq_true rfl), (Nat.le_of_ble_eq_true rfl), (Nat.le_of_ble_eq_true rfl), (Nat.le_of_ble_eq_true rfl)⟩ (fun v h1 hq => ?_)
                        obtain ⟨rfl, rfl⟩ := hq
                        refine z_aload_n F dX6_controls_189 rfl rfl ?_
                        refine z_iload_n F dX6_controls_190 rfl ?_
                        refine z_callV F z_nwOK wL_good (c_X6_say (b := sAN S 39 3) (show sN S 40 + 1 + 1 + 1 < 1000 by omega) (by omega)) mO_at rfl vI_X6_say vM_X6_131 vV_X6_say vL_X6_say rfl dX6_controls_191 rfl rfl (Nat.le_of_ble_eq_true rfl) ⟨(Nat.le_of_ble_eq_true rfl), (Nat.le_of_ble_eq_true rfl), (Nat.le_of_ble_eq_true rfl), (Nat.le_of_ble_eq_true rfl)⟩ (fun v h1 hq => ?_)
                        obtain ⟨rfl, rfl⟩ := hq
                        refine z_iconst (v := 0) F dX6_controls_194 rfl ?_
                        exact z_iret F hr dX6_controls_195 rfl (Nat.le_of_ble_eq_true rfl) (Nat.le_of_ble_eq_true rfl) (⟨by rw [hs]; try rfl, by rw [hs]; try rfl⟩)
                      · have hz : decide (0 < sAN S 39 3) = true := decide_eq_true (by have := mt (nI_leI (a := sAN S 39 3) (b := 0) (by omega) (by decide)).mpr c154; omega)
                        rw [hz] at hs
                        refine z_iconst (v := 1) F dX6_controls_157 rfl ?_
                        refine z_goto (tgt := 162) F dX6_controls_158 (by decide) ?_
                        refine z_zast (j := k) F dX6_controls_162 mA_14 rfl rfl (show k < 40 by omega) (Nat.le_of_ble_eq_true rfl) ?_
                        refine z_heap _ (ma_14 (v := true)) ?_
                        refine z_aload_n F dX6_controls_163 rfl rfl ?_
                        refine z_getf F vF_X6_41 dX6_controls_164 mO_at rfl ?_
                        refine z_iload_n F dX6_controls_167 rfl ?_
                        refine z_lload F dX6_controls_168 rfl ?_
                        refine z_last (j := k) F dX6_controls_170 mA_15 rfl rfl (show k < 40 by omega) (Nat.le_of_ble_eq_true rfl) ?_
                        refine z_heap _ (ma_15) ?_
                        refine z_aload_n F dX6_controls_171 rfl rfl ?_
                        refine z_bipush (v := 111) F dX6_controls_172 rfl ?_
                        refine z_aload_n F dX6_controls_174 rfl rfl ?_
                        refine z_getf F vF_X6_74 dX6_controls_175 mO_at rfl ?_
                        refine z_iconst (v := 1) F dX6_controls_178 rfl ?_
                        refine z_iald (j := 1) F dX6_controls_179 mA_39 rfl rfl (show 1 < 60 by decide) (Nat.le_of_ble_eq_true rfl) ?_
                        refine z_aload_n F dX6_controls_180 rfl rfl ?_
                        refine z_getf F vF_X6_74 dX6_controls_181 mO_at rfl ?_
                        refine z_iconst (v := 2) F dX6_controls_184 rfl ?_
                        refine z_iald (j := 2) F dX6_controls_185 mA_39 rfl rfl (show 2 < 60 by decide) (Nat.le_of_ble_eq_true rfl) ?_
                        refine z_callV F z_nwOK wL_good (c_X6_threeSaid (x := 111) (y := sAN S 39 1) (w := sAN S 39 2) (show sN S 40 < 900 by omega) (by decide) (by have := R 1; omega) (by have := R 2; omega)) mO_at rfl vI_X6_threeSaid vM_X6_176 vV_X6_threeSaid vL_X6_threeSaid rfl dX6_controls_186 rfl rfl (Nat.le_of_ble_eq_true rfl) ⟨(Nat.le_of_ble_eq_true rfl), (Nat.le_of_ble_eq_true rfl), (Nat.le_of_ble_eq_true rfl), (Nat.le_of_ble_eq_true rfl)⟩ (fun v h1 hq => ?_)
                        obtain ⟨rfl, rfl⟩ := hq
                        refine z_aload_n F dX6_controls_189 rfl rfl ?_
                        refine z_iload_n F dX6_controls_190 rfl ?_
                        refine z_callV F z_nwOK wL_good (c_X6_say (b := sAN S 39 3) (show sN S 40 + 1 + 1 + 1 < 1000 by omega) (by omega)) mO_at rfl vI_X6_say vM_X6_131 vV_X6_say vL_X6_say rfl dX6_controls_191 rfl rfl (Nat.le_of_ble_eq_true rfl) ⟨(Nat.le_of_ble_eq_true rfl), (Nat.le_of_ble_eq_true rfl), (Nat.le_of_ble_eq_true rfl), (Nat.le_of_ble_eq_true rfl)⟩ (fun v h1 hq => ?_)
                        obtain ⟨rfl, rfl⟩ := hq
                        refine z_iconst (v := 0) F dX6_controls_194 rfl ?_
                        exact z_iret F hr dX6_controls_195 rfl (Nat.le_of_ble_eq_true rfl) (Nat.le_of_ble_eq_true rfl) (⟨by rw [hs]; try rfl, by rw [hs]; try rfl⟩)
                  · have e1 : sAN S 39 3 = 1 := (nI_eq (b := 1) (by omega) (by decide)).mp c106
                    have hV : (0 : Int64) = ctlV S k := by unfold ctlV; rw [if_neg (by omega), if_neg (by omega)]
                    refine z_lconst (v := 0) F dX6_controls_109 rfl ?_
                    refine z_goto (tgt := 146) F dX6_controls_110 (by decide) ?_
                    rw [show (0 : Int64) = ctlV S k from hV]
                    refine z_lstore F dX6_controls_146 (Nat.le_of_ble_eq_true rfl) ?_
                    refine z_aload_n F dX6_controls_148 rfl rfl ?_
                    refine z_getf F vF_X6_37 dX6_controls_149 mO_at rfl ?_
                    refine z_iload_n F dX6_controls_152 rfl ?_
                    refine z_iload_n F dX6_controls_153 rfl ?_
                    refine z_if_le (tgt := 161) F dX6_controls_154 (by decide) (fun c154 => ?_) (fun c154 => ?_)
                    · have hz : decide (0 < sAN S 39 3) = false := decide_eq_false (by have := (nI_leI (b := 0) (by omega) (by decide)).mp c154; omega)
                      rw [hz] at hs
                      refine z_iconst (v := 0) F dX6_controls_161 rfl ?_
                      refine z_zast (j := k) F dX6_controls_162 mA_14 rfl rfl (show k < 40 by omega) (Nat.le_of_ble_eq_true rfl) ?_
                      refine z_heap _ (ma_14 (v := false)) ?_
                      refine z_aload_n F dX6_controls_163 rfl rfl ?_
                      refine z_getf F vF_X6_41 dX6_controls_164 mO_at rfl ?_
                      refine z_iload_n F dX6_controls_167 rfl ?_
                      refine z_lload F dX6_controls_168 rfl ?_
                      refine z_last (j := k) F dX6_controls_170 mA_15 rfl rfl (show k < 40 by omega) (Nat.le_of_ble_eq_true rfl) ?_
                      refine z_heap _ (ma_15) ?_
                      refine z_aload_n F dX6_controls_171 rfl rfl ?_
                      refine z_bipush (v := 111) F dX6_controls_172 rfl ?_
                      refine z_aload_n F dX6_controls_174 rfl rfl ?_
                      refine z_getf F vF_X6_74 dX6_controls_175 mO_at rfl ?_
                      refine z_iconst (v := 1) F dX6_controls_178 rfl ?_
                      refine z_iald (j := 1) F dX6_controls_179 mA_39 rfl rfl (show 1 < 60 by decide) (Nat.le_of_ble_eq_true rfl) ?_
                      refine z_aload_n F dX6_controls_180 rfl rfl ?_
                      refine z_getf F vF_X6_74 dX6_controls_181 mO_at rfl ?_
                      refine z_iconst (v := 2) F dX6_controls_184 rfl ?_
                      refine z_iald (j := 2) F dX6_controls_185 mA_39 rfl rfl (show 2 < 60 by decide) (Nat.le_of_ble_eq_true rfl) ?_
                      refine z_callV F z_nwOK wL_good (c_X6_threeSaid (x := 111) (y := sAN S 39 1) (w := sAN S 39 2) (show sN S 40 < 900 by omega) (by decide) (by have := R 1; omega) (by have := R 2; omega)) mO_at rfl vI_X6_threeSaid vM_X6_176 vV_X6_threeSaid vL_X6_threeSaid rfl dX6_controls_186 rfl rfl (Nat.le_of_ble_eq_true rfl) ⟨(Nat.le_of_ble_eq_true rfl), (Nat.le_of_ble_eq_true rfl), (Nat.le_of_ble_eq_true rfl), (Nat.le_of_ble_eq_true rfl)⟩ (fun v h1 hq => ?_)
                      obtain ⟨rfl, rfl⟩ := hq
                      refine z_aload_n F dX6_controls_189 rfl rfl ?_
                      refine z_iload_n F dX6_controls_190 rfl ?_
                      refine z_callV F z_nwOK wL_good (c_X6_say (b := sAN S 39 3) (show sN S 40 + 1 + 1 + 1 < 1000 by omega) (by omega)) mO_at rfl vI_X6_say vM_X6_131 vV_X6_say vL_X6_say rfl dX6_controls_191 rfl rfl (Nat.le_of_ble_eq_true rfl) ⟨(Nat.le_of_ble_eq_true rfl), (Nat.le_of_ble_eq_true rfl), (Nat.le_of_ble_eq_true rfl), (Nat.le_of_ble_eq_true rfl)⟩ (fun v h1 hq => ?_)
                      obtain ⟨rfl, rfl⟩ := hq
                      refine z_iconst (v := 0) F dX6_controls_194 rfl ?_
                      exact z_iret F hr dX6_controls_195 rfl (Nat.le_of_ble_eq_true rfl) (Nat.le_of_ble_eq_true rfl) (⟨by rw [hs]; try rfl, by rw [hs]; try rfl⟩)
                    · have hz : decide (0 < sAN S 39 3) = true := decide_eq_true (by have := mt (nI_leI (a := sAN S 39 3) (b := 0) (by omega) (by decide)).mpr c154; omega)
                      rw [hz] at hs
                      refine z_iconst (v := 1) F dX6_controls_157 rfl ?_
                      refine z_goto (tgt := 162) F dX6_controls_158 (by decide) ?_
                      refine z_zast (j := k) F dX6_controls_162 mA_14 rfl rfl (show k < 40 by omega) (Nat.le_of_ble_eq_true rfl) ?_
                      refine z_heap _ (ma_14 (v := true)) ?_
                      refine z_aload_n F dX6_controls_163 rfl rfl ?_
                      refine z_getf F vF_X6_41 dX6_controls_164 mO_at rfl ?_
                      refine z_iload_n F dX6_controls_167 rfl ?_
                      refine z_lload F dX6_controls_168 rfl ?_
                      refine z_last (j := k) F dX6_controls_170 mA_15 rfl rfl (show k < 40 by omega) (Nat.le_of_ble_eq_true rfl) ?_
                      refine z_heap _ (ma_15) ?_
                      refine z_aload_n F dX6_controls_171 rfl rfl ?_
                      refine z_bipush (v := 111) F dX6_controls_172 rfl ?_
                      refine z_aload_n F dX6_controls_174 rfl rfl ?_
                      refine z_getf F vF_X6_74 dX6_controls_175 mO_at rfl ?_
                      refine z_iconst (v := 1) F dX6_controls_178 rfl ?_
                      refine z_iald (j := 1) F dX6_controls_179 mA_39 rfl rfl (show 1 < 60 by decide) (Nat.le_of_ble_eq_true rfl) ?_
                      refine z_aload_n F dX6_controls_180 rfl rfl ?_
                      refine z_getf F vF_X6_74 dX6_controls_181 mO_at rfl ?_
                      refine z_iconst (v := 2) F dX6_controls_184 rfl ?_
                      refine z_iald (j := 2) F dX6_controls_185 mA_39 rfl rfl (show 2 < 60 by decide) (Nat.le_of_ble_eq_true rfl) ?_
                      refine z_callV F z_nwOK wL_good (c_X6_threeSaid (x := 111) (y := sAN S 39 1) (w := sAN S 39 2) (show sN S 40 < 900 by omega) (by decide) (by have := R 1; omega) (by have := R 2; omega)) mO_at rfl vI_X6_threeSaid vM_X6_176 vV_X6_threeSaid vL_X6_threeSaid rfl dX6_controls_186 rfl rfl (Nat.le_of_ble_eq_true rfl) ⟨(Nat.le_of_ble_eq_true rfl), (Nat.le_of_ble_eq_true rfl), (Nat.le_of_ble_eq_true rfl), (Nat.le_of_ble_eq_true rfl)⟩ (fun v h1 hq => ?_)
                      obtain ⟨rfl, rfl⟩ := hq
                      refine z_aload_n F dX6_controls_189 rfl rfl ?_
                      refine z_iload_n F dX6_controls_190 rfl ?_
                      refine z_callV F z_nwOK wL_good (c_X6_say (b := sAN S 39 3) (show sN S 40 + 1 + 1 + 1 < 1000 by omega) (by omega)) mO_at rfl vI_X6_say vM_X6_131 vV_X6_say vL_X6_say rfl dX6_controls_191 rfl rfl (Nat.le_of_ble_eq_true rfl) ⟨(Nat.le_of_ble_eq_true rfl), (Nat.le_of_ble_eq_true rfl), (Nat.le_of_ble_eq_true rfl), (Nat.le_of_ble_eq_true rfl)⟩ (fun v h1 hq => ?_)
                      obtain ⟨rfl, rfl⟩ := hq
                      refine z_iconst (v := 0) F dX6_controls_194 rfl ?_
                      exact z_iret F hr dX6_controls_195 rfl (Nat.le_of_ble_eq_true rfl) (Nat.le_of_ble_eq_true rfl) (⟨by rw [hs]; try rfl, by rw [hs]; try rfl⟩)
                · have hn : ¬ sN S 38 - 1 = 3 + (if sAN S 39 3 = 3 then sAN S 10 k else 0) := fun e => c98 (by rw [e, he]; first | rfl | exact (nI_add 3 _).symm)
                  have hs : sv47 S = (19, S) := by unfold sv47; rw [if_neg hp1, if_neg h3, hF]; show (if _ then _ else _) = _; rw [if_neg hj, if_neg hv, if_neg h33, if_pos hn]
                  refine z_bipush (v := 19) F dX6_controls_101 rfl ?_
                  exact z_iret F hr dX6_controls_103 rfl (Nat.le_of_ble_eq_true rfl) (Nat.le_of_ble_eq_true rfl) (⟨by rw [hs]; try rfl, by rw [hs]; try rfl⟩)
              · have hk3 : sAN S 39 3 = 3 := (nI_eq (b := 3) (by omega) (by decide)).mp c83
                have he : (if sAN S 39 3 = 3 then sAN S 10 k else 0) = sAN S 10 k := if_pos hk3
                refine z_iconst (v := 3) F dX6_controls_86 rfl ?_
                refine z_aload_n F dX6_controls_87 rfl rfl ?_
                refine z_getf F vF_X6_24 dX6_controls_88 mO_at rfl ?_
                refine z_iload_n F dX6_controls_91 rfl ?_
                refine z_iald (j := k) F dX6_controls_92 mA_10 rfl rfl (show k < 40 by omega) (Nat.le_of_ble_eq_true rfl) ?_
                refine z_iadd F dX6_controls_93 ?_
                refine z_goto (tgt := 98) F dX6_controls_94 (by decide) ?_
                refine z_icmp_eq (tgt := 104) F dX6_controls_98 (by decide) (fun c98 => ?_) (fun c98 => ?_)
                · have hn : sN S 38 - 1 = 3 + (if sAN S 39 3 = 3 then sAN S 10 k else 0) := by rw [he]; first | exact (nI_eq (by omega) (by omega)).mp (c98.trans (nI_add 3 _)) | exact (nI_eq (b := 3) (by omega) (by omega)).mp c98
                  have hs : sv47 S = (0, sayS (sayS (sayS (sayS (uAL (uAB S 14 (va_up (sAB S 14) k (decide (0 < sAN S 39 3)))) 15 (va_up (sAL S 15) k (ctlV S k))) 111) (sAN S 39 1)) (sAN S 39 2)) (sAN S 39 3)) := by unfold sv47; rw [if_neg hp1, if_neg h3, hF]; show (if _ then _ else _) = _; rw [if_neg hj, if_neg hv, if_neg h33, if_neg (not_not_intro hn)]
                  refine z_iload_n F dX6_controls_104 rfl ?_
                  refine z_iconst (v := 1) F dX6_controls_105 rfl ?_
                  refine z_icmp_ne (tgt := 113) F dX6_controls_106 (by decide) (fun c106 => ?_) (fun c106 => ?_)
                  · have e1 : ¬ sAN S 39 3 = 1 := fun e => c106 (by rw [e]; rfl)
                    refine z_iload_n F dX6_controls_113 rfl ?_
                    refine z_iconst (v := 2) F dX6_controls_114 rfl ?_
                    refine z_icmp_ne (tgt := 126) F dX6_controls_115 (by decide) (fun c115 => ?_) (fun c115 => ?_)
                    · have e2 : ¬ sAN S 39 3 = 2 := fun e => c115 (by rw [e]; rfl)
                      refine z_iload_n F dX6_controls_126 rfl ?_
                      refine z_iconst (v := 3) F dX6_controls_127 rfl ?_
                      refine z_icmp_ne (tgt := 145) F dX6_controls_128 (by decide) (fun c128 => ?_) (fun c128 => ?_)
                      · have e3 : ¬ sAN S 39 3 = 3 := fun e => c128 (by rw [e]; rfl)
                        have hV : (0 : Int64) = ctlV S k := by unfold ctlV; rw [if_neg e2, if_neg e3]
                        refine z_lconst (v := 0) F dX6_controls_145 rfl ?_
                        rw [show (0 : Int64) = ctlV S k from hV]
                        refine z_lstore F dX6_controls_146 (Nat.le_of_ble_eq_true rfl) ?_
                        refine z_aload_n F dX6_controls_148 rfl rfl ?_
                        refine z_getf F vF_X6_37 dX6_controls_149 mO_at rfl ?_
                        refine z_iload_n F dX6_controls_152 rfl ?_
                        refine z_iload_n F dX6_controls_153 rfl ?_
                        refine z_if_le (tgt := 161) F dX6_controls_154 (by decide) (fun c154 => ?_) (fun c154 => ?_)
                        · have hz : decide (0 < sAN S 39 3) = false := decide_eq_false (by have := (nI_leI (b := 0) (by omega) (by decide)).mp c154; omega)
                          rw [hz] at hs
                          refine z_iconst (v := 0) F dX6_controls_161 rfl ?_
                          refine z_zast (j := k) F dX6_controls_162 mA_14 rfl rfl (show k < 40 by omega) (Nat.le_of_ble_eq_true rfl) ?_
                          refine z_heap _ (ma_14 (v := false)) ?_
                          refine z_aload_n F dX6_controls_163 rfl rfl ?_
                          refine z_getf F vF_X6_41 dX6_controls_164 mO_at rfl ?_
                          refine z_iload_n F dX6_controls_167 rfl ?_
                          refine z_lload F dX6_controls_168 rfl ?_
                          refine z_last (j := k) F dX6_controls_170 mA_15 rfl rfl (show k < 40 by omega) (Nat.le_of_ble_eq_true rfl) ?_
                          refine z_heap _ (ma_15) ?_
                          refine z_aload_n F dX6_controls_171 rfl rfl ?_
                          refine z_bipush (v := 111) F dX6_controls_172 rfl ?_
                          refine z_aload_n F dX6_controls_174 rfl rfl ?_
                          refine z_getf F vF_X6_74 dX6_controls_175 mO_at rfl ?_
                          refine z_iconst (v := 1) F dX6_controls_178 rfl ?_
                          refine z_iald (j := 1) F dX6_controls_179 mA_39 rfl rfl (show 1 < 60 by decide) (Nat.le_of_ble_eq_true rfl) ?_
                          refine z_aload_n F dX6_controls_180 rfl rfl ?_
                          refine z_getf F vF_X6_74 dX6_controls_181 mO_at rfl ?_
                          refine z_iconst (v := 2) F dX6_controls_184 rfl ?_
                          refine z_iald (j := 2) F dX6_controls_185 mA_39 rfl rfl (show 2 < 60 by decide) (Nat.le_of_ble_eq_true rfl) ?_
                          refine z_callV F z_nwOK wL_good (c_X6_threeSaid (x := 111) (y := sAN S 39 1) (w := sAN S 39 2) (show sN S 40 < 900 by omega) (by decide) (by have := R 1; omega) (by have := R 2; omega)) mO_at rfl vI_X6_threeSaid vM_X6_176 vV_X6_threeSaid vL_X6_threeSaid rfl dX6_controls_186 rfl rfl (Nat.le_of_ble_eq_true rfl) ⟨(Nat.le_of_ble_eq_true rfl), (Nat.le_of_ble_eq_true rfl), (Nat.le_of_ble_eq_true rfl), (Nat.le_of_ble_eq_true rfl)⟩ (fun v h1 hq => ?_)
                          obtain ⟨rfl, rfl⟩ := hq
                          refine z_aload_n F dX6_controls_189 rfl rfl ?_
                          refine z_iload_n F dX6_controls_190 rfl ?_
                          refine z_callV F z_nwOK wL_good (c_X6_say (b := sAN S 39 3) (show sN S 40 + 1 + 1 + 1 < 1000 by omega) (by omega)) mO_at rfl vI_X6_say vM_X6_131 vV_X6_say vL_X6_say rfl dX6_controls_191 rfl rfl (Nat.le_of_ble_eq_true rfl) ⟨(Nat.le_of_ble_eq_true rfl), (Nat.le_of_ble_eq_true rfl), (Nat.le_of_ble_eq_true rfl), (Nat.le_of_ble_eq_true rfl)⟩ (fun v h1 hq => ?_)
                          obtain ⟨rfl, rfl⟩ := hq
                          refine z_iconst (v := 0) F dX6_controls_194 rfl ?_
                          exact z_iret F hr dX6_controls_195 rfl (Nat.le_of_ble_eq_true rfl) (Nat.le_of_ble_eq_true rfl) (⟨by rw [hs]; try rfl, by rw [hs]; try rfl⟩)
                        · have hz : decide (0 < sAN S 39 3) = true := decide_eq_true (by have := mt (nI_leI (a := sAN S 39 3) (b := 0) (by omega) (by decide)).mpr c154; omega)
                          rw [hz] at hs
                          refine z_iconst (v := 1) F dX6_controls_157 rfl ?_
                          refine z_goto (tgt := 162) F dX6_controls_158 (by decide) ?_
                          refine z_zast (j := k) F dX6_controls_162 mA_14 rfl rfl (show k < 40 by omega) (Nat.le_of_ble_eq_true rfl) ?_
                          refine z_heap _ (ma_14 (v := true)) ?_
                          refine z_aload_n F dX6_controls_163 rfl rfl ?_
                          refine z_getf F vF_X6_41 dX6_controls_164 mO_at rfl ?_
                          refine z_iload_n F dX6_controls_167 rfl ?_
                          refine z_lload F dX6_controls_168 rfl ?_
                          refine z_last (j := k) F dX6_controls_170 mA_15 rfl rfl (show k < 40 by omega) (Nat.le_of_ble_eq_true rfl) ?_
                          refine z_heap _ (ma_15) ?_
                          refine z_aload_n F dX6_controls_171 rfl rfl ?_
                          refine z_bipush (v := 111) F dX6_controls_172 rfl ?_
                          refine z_aload_n F dX6_controls_174 rfl rfl ?_
                          refine z_getf F vF_X6_74 dX6_controls_175 mO_at rfl ?_
                          refine z_iconst (v := 1) F dX6_controls_178 rfl ?_
                          refine z_iald (j := 1) F dX6_controls_179 mA_39 rfl rfl (show 1 < 60 by decide) (Nat.le_of_ble_eq_true rfl) ?_
                          refine z_aload_n F dX6_controls_180 rfl rfl ?_
                          refine z_getf F vF_X6_74 dX6_controls_181 mO_at rfl ?_
                          refine z_iconst (v := 2) F dX6_controls_184 rfl ?_
                          refine z_iald (j := 2) F dX6_controls_185 mA_39 rfl rfl (show 2 < 60 by decide) (Nat.le_of_ble_eq_true rfl) ?_
                          refine z_callV F z_nwOK wL_good (c_X6_threeSaid (x := 111) (y := sAN S 39 1) (w := sAN S 39 2) (show sN S 40 < 900 by omega) (by decide) (by have := R 1; omega) (by have := R 2; omega)) mO_at rfl vI_X6_threeSaid vM_X6_176 vV_X6_threeSaid vL_X6_threeSaid rfl dX6_controls_186 rfl rfl (Nat.le_of_ble_eq_true rfl) ⟨(Nat.le_of_ble_eq_true rfl), (Nat.le_of_ble_eq_true rfl), (Nat.le_of_ble_eq_true rfl), (Nat.le_of_ble_eq_true rfl)⟩ (fun v h1 hq => ?_)
                          obtain ⟨rfl, rfl⟩ := hq
                          refine z_aload_n F dX6_controls_189 rfl rfl ?_
                          refine z_iload_n F dX6_controls_190 rfl ?_
                          refine z_callV F z_nwOK wL_good (c_X6_say (b := sAN S 39 3) (show sN S 40 + 1 + 1 + 1 < 1000 by omega) (by omega)) mO_at rfl vI_X6_say vM_X6_131 vV_X6_say vL_X6_say rfl dX6_controls_191 rfl rfl (Nat.le_of_ble_eq_true rfl) ⟨(Nat.le_of_ble_eq_true rfl), (Nat.le_of_ble_eq_true rfl), (Nat.le_of_ble_eq_true rfl), (Nat.le_of_ble_eq_true rfl)⟩ (fun v h1 hq => ?_)
                          obtain ⟨rfl, rfl⟩ := hq
                          refine z_iconst (v := 0) F dX6_controls_194 rfl ?_
                          exact z_iret F hr dX6_controls_195 rfl (Nat.le_of_ble_eq_true rfl) (Nat.le_of_ble_eq_true rfl) (⟨by rw [hs]; try rfl, by rw [hs]; try rfl⟩)
                      · have e3 : sAN S 39 3 = 3 := (nI_eq (b := 3) (by omega) (by decide)).mp c128
                        have hV : numL (fun i => nI (sAN S 39 (4 + i))) (sAN S 10 k) = ctlV S k := by unfold ctlV; rw [if_neg e2, if_pos e3]
                        have hn60 : 4 + sAN S 10 k ≤ 60 := by omega
                        refine z_aload_n F dX6_controls_131 rfl rfl ?_
                        refine z_iconst (v := 4) F dX6_controls_132 rfl ?_
                        refine z_aload_n F dX6_controls_133 rfl rfl ?_
                        refine z_getf F vF_X6_24 dX6_controls_134 mO_at rfl ?_
                        refine z_iload_n F dX6_controls_137 rfl ?_
                        refine z_iald (j := k) F dX6_controls_138 mA_10 rfl rfl (show k < 40 by omega) (Nat.le_of_ble_eq_true rfl) ?_
                        refine z_callV F z_nwOK wL_good (c_X6_number (a := 4) (n := sAN S 10 k) hn60) mO_at rfl vI_X6_number vM_X6_184 vV_X6_number vL_X6_number rfl dX6_controls_139 rfl rfl (Nat.le_of_ble_eq_true rfl) ⟨(Nat.le_of_ble_eq_true rfl), (Nat.le_of_ble_eq_true rfl), (Nat.le_of_ble_eq_true rfl), (Nat.le_of_ble_eq_true rfl)⟩ (fun v h1 hq => ?_)
                        obtain ⟨rfl, rfl⟩ := hq
                        refine z_goto (tgt := 146) F dX6_controls_142 (by decide) ?_
                        rw [show numL (fun i => nI (sAN S 39 (4 + i))) (sAN S 10 k) = ctlV S k from hV]
                        refine z_lstore F dX6_controls_146 (Nat.le_of_ble_eq_true rfl) ?_
                        refine z_aload_n F dX6_controls_148 rfl rfl ?_
                        refine z_getf F vF_X6_37 dX6_controls_149 mO_at rfl ?_
                        refine z_iload_n F dX6_controls_152 rfl ?_
                        refine z_iload_n F dX6_controls_153 rfl ?_
                        refine z_if_le (tgt := 161) F dX6_controls_154 (by decide) (fun c154 => ?_) (fun c154 => ?_)
                        · have hz : decide (0 < sAN S 39 3) = false := decide_eq_false (by have := (nI_leI (b := 0) (by omega) (by decide)).mp c154; omega)
                          rw [hz] at hs
                          refine z_iconst (v := 0) F dX6_controls_161 rfl ?_
                          refine z_zast (j := k) F dX6_controls_162 mA_14 rfl rfl (show k < 40 by omega) (Nat.le_of_ble_eq_true rfl) ?_
                          refine z_heap _ (ma_14 (v := false)) ?_
                          refine z_aload_n F dX6_controls_163 rfl rfl ?_
                          refine z_getf F vF_X6_41 dX6_controls_164 mO_at rfl ?_
                          refine z_iload_n F dX6_controls_167 rfl ?_
                          refine z_lload F dX6_controls_168 rfl ?_
                          refine z_last (j := k) F dX6_controls_170 mA_15 rfl rfl (show k < 40 by omega) (Nat.le_of_ble_eq_true rfl) ?_
                          refine z_heap _ (ma_15) ?_
                          refine z_aload_n F dX6_controls_171 rfl rfl ?_
                          refine z_bipush (v := 111) F dX6_controls_172 rfl ?_
                          refine z_aload_n F dX6_controls_174 rfl rfl ?_
                          refine z_getf F vF_X6_74 dX6_controls_175 mO_at rfl ?_
                          refine z_iconst (v := 1) F dX6_controls_178 rfl ?_
                          refine z_iald (j := 1) F dX6_controls_179 mA_39 rfl rfl (show 1 < 60 by decide) (Nat.le_of_ble_eq_true rfl) ?_
                          refine z_aload_n F dX6_controls_180 rfl rfl ?_
                          refine z_getf F vF_X6_74 dX6_controls_181 mO_at rfl ?_
                          refine z_iconst (v := 2) F dX6_controls_184 rfl ?_
                          refine z_iald (j := 2) F dX6_controls_185 mA_39 rfl rfl (show 2 < 60 by decide) (Nat.le_of_ble_eq_true rfl) ?_
                          refine z_callV F z_nwOK wL_good (c_X6_threeSaid (x := 111) (y := sAN S 39 1) (w := sAN S 39 2) (show sN S 40 < 900 by omega) (by decide) (by have := R 1; omega) (by have := R 2; omega)) mO_at rfl vI_X6_threeSaid vM_X6_176 vV_X6_threeSaid vL_X6_threeSaid rfl dX6_controls_186 rfl rfl (Nat.le_of_ble_eq_true rfl) ⟨(Nat.le_of_ble_eq_true rfl), (Nat.le_of_ble_eq_true rfl), (Nat.le_of_ble_eq_true rfl), (Nat.le_of_ble_eq_true rfl)⟩ (fun v h1 hq => ?_)
                          obtain ⟨rfl, rfl⟩ := hq
                          refine z_aload_n F dX6_controls_189 rfl rfl ?_
                          refine z_iload_n F dX6_controls_190 rfl ?_
                          refine z_callV F z_nwOK wL_good (c_X6_say (b := sAN S 39 3) (show sN S 40 + 1 + 1 + 1 < 1000 by omega) (by omega)) mO_at rfl vI_X6_say vM_X6_131 vV_X6_say vL_X6_say rfl dX6_controls_191 rfl rfl (Nat.le_of_ble_eq_true rfl) ⟨(Nat.le_of_ble_eq_true rfl), (Nat.le_of_ble_eq_true rfl), (Nat.le_of_ble_eq_true rfl), (Nat.le_of_ble_eq_true rfl)⟩ (fun v h1 hq => ?_)
                          obtain ⟨rfl, rfl⟩ := hq
                          refine z_iconst (v := 0) F dX6_controls_194 rfl ?_
                          exact z_iret F hr dX6_controls_195 rfl (Nat.le_of_ble_eq_true rfl) (Nat.le_of_ble_eq_true rfl) (⟨by rw [hs]; try rfl, by rw [hs]; try rfl⟩)
                        · have hz : decide (0 < sAN S 39 3) = true := decide_eq_true (by have := mt (nI_leI (a := sAN S 39 3) (b := 0) (by omega) (by decide)).mpr c154; omega)
                          rw [hz] at hs
                          refine z_iconst (v := 1) F dX6_controls_157 rfl ?_
                          refine z_goto (tgt := 162) F dX6_controls_158 (by decide) ?_
                          refine z_zast (j := k) F dX6_controls_162 mA_14 rfl rfl (show k < 40 by omega) (Nat.le_of_ble_eq_true rfl) ?_
                          refine z_heap _ (ma_14 (v := true)) ?_
                          refine z_aload_n F dX6_controls_163 rfl rfl ?_
                          refine z_getf F vF_X6_41 dX6_controls_164 mO_at rfl ?_
                          refine z_iload_n F dX6_controls_167 rfl ?_
                          refine z_lload F dX6_controls_168 rfl ?_
                          refine z_last (j := k) F dX6_controls_170 mA_15 rfl rfl (show k < 40 by omega) (Nat.le_of_ble_eq_true rfl) ?_
                          refine z_heap _ (ma_15) ?_
                          refine z_aload_n F dX6_controls_171 rfl rfl ?_
                          refine z_bipush (v := 111) F dX6_controls_172 rfl ?_
                          refine z_aload_n F dX6_controls_174 rfl rfl ?_
                          refine z_getf F vF_X6_74 dX6_controls_175 mO_at rfl ?_
                          refine z_iconst (v := 1) F dX6_controls_178 rfl ?_
                          refine z_iald (j := 1) F dX6_controls_179 mA_39 rfl rfl (show 1 < 60 by decide) (Nat.le_of_ble_eq_true rfl) ?_
                          refine z_aload_n F dX6_controls_180 rfl rfl ?_
                          refine z_getf F vF_X6_74 dX6_controls_181 mO_at rfl ?_
                          refine z_iconst (v := 2) F dX6_controls_184 rfl ?_
                          refine z_iald (j := 2) F dX6_controls_185 mA_39 rfl rfl (show 2 < 60 by decide) (Nat.le_of_ble_eq_true rfl) ?_
                          refine z_callV F z_nwOK wL_good (c_X6_threeSaid (x := 111) (y := sAN S 39 1) (w := sAN S 39 2) (show sN S 40 < 900 by omega) (by decide) (by have := R 1; omega) (by have := R 2; omega)) mO_at rfl vI_X6_threeSaid vM_X6_176 vV_X6_threeSaid vL_X6_threeSaid rfl dX6_controls_186 rfl rfl (Nat.le_of_ble_eq_true rfl) ⟨(Nat.le_of_ble_eq_true rfl), (Nat.le_of_ble_eq_true rfl), (Nat.le_of_ble_eq_true rfl), (Nat.le_of_ble_eq_true rfl)⟩ (fun v h1 hq => ?_)
                          obtain ⟨rfl, rfl⟩ := hq
                          refine z_aload_n F dX6_controls_189 rfl rfl ?_
                          refine z_iload_n F dX6_controls_190 rfl ?_
                          refine z_callV F z_nwOK wL_good (c_X6_say (b := sAN S 39 3) (show sN S 40 + 1 + 1 + 1 < 1000 by omega) (by omega)) mO_at rfl vI_X6_say vM_X6_131 vV_X6_say vL_X6_say rfl dX6_controls_191 rfl rfl (Nat.le_of_ble_eq_true rfl) ⟨(Nat.le_of_ble_eq_true rfl), (Nat.le_of_ble_eq_true rfl), (Nat.le_of_ble_eq_true rfl), (Nat.le_of_ble_eq_true rfl)⟩ (fun v h1 hq => ?_)
                          obtain ⟨rfl, rfl⟩ := hq
                          refine z_iconst (v := 0) F dX6_controls_194 rfl ?_
                          exact z_iret F hr dX6_controls_195 rfl (Nat.le_of_ble_eq_true rfl) (Nat.le_of_ble_eq_true rfl) (⟨by rw [hs]; try rfl, by rw [hs]; try rfl⟩)
                    · have e2 : sAN S 39 3 = 2 := (nI_eq (b := 2) (by omega) (by decide)).mp c115
                      have hV : numL (fun j => nI (octS S k j)) (sAN S 10 k) = ctlV S k := by unfold ctlV; rw [if_pos e2]; rfl
                      refine z_aload_n F dX6_controls_118 rfl rfl ?_
                      refine z_iload_n F dX6_controls_119 rfl ?_
                      refine z_callV F z_nwOK wL_good (c_X6_valueOf W hk) mO_at rfl vI_X6_valueOf vM_X6_124 vV_X6_valueOf vL_X6_valueOf rfl dX6_controls_120 rfl rfl (Nat.le_of_ble_eq_true rfl) ⟨(Nat.le_of_ble_eq_true rfl), (Nat.le_of_ble_eq_true rfl), (Nat.le_of_ble_eq_true rfl), (Nat.le_of_ble_eq_true rfl)⟩ (fun v h1 hq => ?_)
                      obtain ⟨rfl, rfl⟩ := hq
                      refine z_goto (tgt := 146) F dX6_controls_123 (by decide) ?_
                      rw [show numL (fun j => nI (octS S k j)) (sAN S 10 k) = ctlV S k from hV]
                      refine z_lstore F dX6_controls_146 (Nat.le_of_ble_eq_true rfl) ?_
                      refine z_aload_n F dX6_controls_148 rfl rfl ?_
                      refine z_getf F vF_X6_37 dX6_controls_149 mO_at rfl ?_
                      refine z_iload_n F dX6_controls_152 rfl ?_
                      refine z_iload_n F dX6_controls_153 rfl ?_
                      refine z_if_le (tgt := 161) F dX6_controls_154 (by decide) (fun c154 => ?_) (fun c154 => ?_)
                      · have hz : decide (0 < sAN S 39 3) = false := decide_eq_false (by have := (nI_leI (b := 0) (by omega) (by decide)).mp c154; omega)
                        rw [hz] at hs
                        refine z_iconst (v := 0) F dX6_controls_161 rfl ?_
                        refine z_zast (j := k) F dX6_controls_162 mA_14 rfl rfl (show k < 40 by omega) (Nat.le_of_ble_eq_true rfl) ?_
                        refine z_heap _ (ma_14 (v := false)) ?_
                        refine z_aload_n F dX6_controls_163 rfl rfl ?_
                        refine z_getf F vF_X6_41 dX6_controls_164 mO_at rfl ?_
                        refine z_iload_n F dX6_controls_167 rfl ?_
                        refine z_lload F dX6_controls_168 rfl ?_
                        refine z_last (j := k) F dX6_controls_170 mA_15 rfl rfl (show k < 40 by omega) (Nat.le_of_ble_eq_true rfl) ?_
                        refine z_heap _ (ma_15) ?_
                        refine z_aload_n F dX6_controls_171 rfl rfl ?_
                        refine z_bipush (v := 111) F dX6_controls_172 rfl ?_
                        refine z_aload_n F dX6_controls_174 rfl rfl ?_
                        refine z_getf F vF_X6_74 dX6_controls_175 mO_at rfl ?_
                        refine z_iconst (v := 1) F dX6_controls_178 rfl ?_
                        refine z_iald (j := 1) F dX6_controls_179 mA_39 rfl rfl (show 1 < 60 by decide) (Nat.le_of_ble_eq_true rfl) ?_
                        refine z_aload_n F dX6_controls_180 rfl rfl ?_
                        refine z_getf F vF_X6_74 dX6_controls_181 mO_at rfl ?_
                        refine z_iconst (v := 2) F dX6_controls_184 rfl ?_
                        refine z_iald (j := 2) F dX6_controls_185 mA_39 rfl rfl (show 2 < 60 by decide) (Nat.le_of_ble_eq_true rfl) ?_
                        refine z_callV F z_nwOK wL_good (c_X6_threeSaid (x := 111) (y := sAN S 39 1) (w := sAN S 39 2) (show sN S 40 < 900 by omega) (by decide) (by have := R 1; omega) (by have := R 2; omega)) mO_at rfl vI_X6_threeSaid vM_X6_176 vV_X6_threeSaid vL_X6_threeSaid rfl dX6_controls_186 rfl rfl (Nat.le_of_ble_eq_true rfl) ⟨(Nat.le_of_ble_eq_true rfl), (Nat.le_of_ble_eq_true rfl), (Nat.le_of_ble_eq_true rfl), (Nat.le_of_ble_eq_true rfl)⟩ (fun v h1 hq => ?_)
                        obtain ⟨rfl, rfl⟩ := hq
                        refine z_aload_n F dX6_controls_189 rfl rfl ?_
                        refine z_iload_n F dX6_controls_190 rfl ?_
                        refine z_callV F z_nwOK wL_good (c_X6_say (b := sAN S 39 3) (show sN S 40 + 1 + 1 + 1 < 1000 by omega) (by omega)) mO_at rfl vI_X6_say vM_X6_131 vV_X6_say vL_X6_say rfl dX6_controls_191 rfl rfl (Nat.le_of_ble_eq_true rfl) ⟨(Nat.le_of_ble_eq_true rfl), (Nat.le_of_ble_eq_true rfl), (Nat.le_of_ble_eq_true rfl), (Nat.le_of_ble_eq_true rfl)⟩ (fun v h1 hq => ?_)
                        obtain ⟨rfl, rfl⟩ := hq
                        refine z_iconst (v := 0) F dX6_controls_194 rfl ?_
                        exact z_iret F hr dX6_controls_195 rfl (Nat.le_of_ble_eq_true rfl) (Nat.le_of_ble_eq_true rfl) (⟨by rw [hs]; try rfl, by rw [hs]; try rfl⟩)
                      · have hz : decide (0 < sAN S 39 3) = true := decide_eq_true (by have := mt (nI_leI (a := sAN S 39 3) (b := 0) (by omega) (by decide)).mpr c154; omega)
                        rw [hz] at hs
                        refine z_iconst (v := 1) F dX6_controls_157 rfl ?_
                        refine z_goto (tgt := 162) F dX6_controls_158 (by decide) ?_
                        refine z_zast (j := k) F dX6_controls_162 mA_14 rfl rfl (show k < 40 by omega) (Nat.le_of_ble_eq_true rfl) ?_
                        refine z_heap _ (ma_14 (v := true)) ?_
                        refine z_aload_n F dX6_controls_163 rfl rfl ?_
                        refine z_getf F vF_X6_41 dX6_controls_164 mO_at rfl ?_
                        refine z_iload_n F dX6_controls_167 rfl ?_
                        refine z_lload F dX6_controls_168 rfl ?_
                        refine z_last (j := k) F dX6_controls_170 mA_15 rfl rfl (show k < 40 by omega) (Nat.le_of_ble_eq_true rfl) ?_
                        refine z_heap _ (ma_15) ?_
                        refine z_aload_n F dX6_controls_171 rfl rfl ?_
                        refine z_bipush (v := 111) F dX6_controls_172 rfl ?_
                        refine z_aload_n F dX6_controls_174 rfl rfl ?_
                        refine z_getf F vF_X6_74 dX6_controls_175 mO_at rfl ?_
                        refine z_iconst (v := 1) F dX6_controls_178 rfl ?_
                        refine z_iald (j := 1) F dX6_controls_179 mA_39 rfl rfl (show 1 < 60 by decide) (Nat.le_of_ble_eq_true rfl) ?_
                        refine z_aload_n F dX6_controls_180 rfl rfl ?_
                        refine z_getf F vF_X6_74 dX6_controls_181 mO_at rfl ?_
                        refine z_iconst (v := 2) F dX6_controls_184 rfl ?_
                        refine z_iald (j := 2) F dX6_controls_185 mA_39 rfl rfl (show 2 < 60 by decide) (Nat.le_of_ble_eq_true rfl) ?_
                        refine z_callV F z_nwOK wL_good (c_X6_threeSaid (x := 111) (y := sAN S 39 1) (w := sAN S 39 2) (show sN S 40 < 900 by omega) (by decide) (by have := R 1; omega) (by have := R 2; omega)) mO_at rfl vI_X6_threeSaid vM_X6_176 vV_X6_threeSaid vL_X6_threeSaid rfl dX6_controls_186 rfl rfl (Nat.le_of_ble_eq_true rfl) ⟨(Nat.le_of_ble_eq_true rfl), (Nat.le_of_ble_eq_true rfl), (Nat.le_of_ble_eq_true rfl), (Nat.le_of_ble_eq_true rfl)⟩ (fun v h1 hq => ?_)
                        obtain ⟨rfl, rfl⟩ := hq
                        refine z_aload_n F dX6_controls_189 rfl rfl ?_
                        refine z_iload_n F dX6_controls_190 rfl ?_
                        refine z_callV F z_nwOK wL_good (c_X6_say (b := sAN S 39 3) (show sN S 40 + 1 + 1 + 1 < 1000 by omega) (by omega)) mO_at rfl vI_X6_say vM_X6_131 vV_X6_say vL_X6_say rfl dX6_controls_191 rfl rfl (Nat.le_of_ble_eq_true rfl) ⟨(Nat.le_of_ble_eq_true rfl), (Nat.le_of_ble_eq_true rfl), (Nat.le_of_ble_eq_true rfl), (Nat.le_of_ble_eq_true rfl)⟩ (fun v h1 hq => ?_)
                        obtain ⟨rfl, rfl⟩ := hq
                        refine z_iconst (v := 0) F dX6_controls_194 rfl ?_
                        exact z_iret F hr dX6_controls_195 rfl (Nat.le_of_ble_eq_true rfl) (Nat.le_of_ble_eq_true rfl) (⟨by rw [hs]; try rfl, by rw [hs]; try rfl⟩)
                  · have e1 : sAN S 39 3 = 1 := (nI_eq (b := 1) (by omega) (by decide)).mp c106
                    have hV : (0 : Int64) = ctlV S k := by unfold ctlV; rw [if_neg (by omega), if_neg (by omega)]
                    refine z_lconst (v := 0) F dX6_controls_109 rfl ?_
                    refine z_goto (tgt := 146) F dX6_controls_110 (by decide) ?_
                    rw [show (0 : Int64) = ctlV S k from hV]
                    refine z_lstore F dX6_controls_146 (Nat.le_of_ble_eq_true rfl) ?_
                    refine z_aload_n F dX6_controls_148 rfl rfl ?_
                    refine z_getf F vF_X6_37 dX6_controls_149 mO_at rfl ?_
                    refine z_iload_n F dX6_controls_152 rfl ?_
                    refine z_iload_n F dX6_controls_153 rfl ?_
                    refine z_if_le (tgt := 161) F dX6_controls_154 (by decide) (fun c154 => ?_) (fun c154 => ?_)
                    · have hz : decide (0 < sAN S 39 3) = false := decide_eq_false (by have := (nI_leI (b := 0) (by omega) (by decide)).mp c154; omega)
                      rw [hz] at hs
                      refine z_iconst (v := 0) F dX6_controls_161 rfl ?_
                      refine z_zast (j := k) F dX6_controls_162 mA_14 rfl rfl (show k < 40 by omega) (Nat.le_of_ble_eq_true rfl) ?_
                      refine z_heap _ (ma_14 (v := false)) ?_
                      refine z_aload_n F dX6_controls_163 rfl rfl ?_
                      refine z_getf F vF_X6_41 dX6_controls_164 mO_at rfl ?_
                      refine z_iload_n F dX6_controls_167 rfl ?_
                      refine z_lload F dX6_controls_168 rfl ?_
                      refine z_last (j := k) F dX6_controls_170 mA_15 rfl rfl (show k < 40 by omega) (Nat.le_of_ble_eq_true rfl) ?_
                      refine z_heap _ (ma_15) ?_
                      refine z_aload_n F dX6_controls_171 rfl rfl ?_
                      refine z_bipush (v := 111) F dX6_controls_172 rfl ?_
                      refine z_aload_n F dX6_controls_174 rfl rfl ?_
                      refine z_getf F vF_X6_74 dX6_controls_175 mO_at rfl ?_
                      refine z_iconst (v := 1) F dX6_controls_178 rfl ?_
                      refine z_iald (j := 1) F dX6_controls_179 mA_39 rfl rfl (show 1 < 60 by decide) (Nat.le_of_ble_eq_true rfl) ?_
                      refine z_aload_n F dX6_controls_180 rfl rfl ?_
                      refine z_getf F vF_X6_74 dX6_controls_181 mO_at rfl ?_
                      refine z_iconst (v := 2) F dX6_controls_184 rfl ?_
                      refine z_iald (j := 2) F dX6_controls_185 mA_39 rfl rfl (show 2 < 60 by decide) (Nat.le_of_ble_eq_true rfl) ?_
                      refine z_callV F z_nwOK wL_good (c_X6_threeSaid (x := 111) (y := sAN S 39 1) (w := sAN S 39 2) (show sN S 40 < 900 by omega) (by decide) (by have := R 1; omega) (by have := R 2; omega)) mO_at rfl vI_X6_threeSaid vM_X6_176 vV_X6_threeSaid vL_X6_threeSaid rfl dX6_controls_186 rfl rfl (Nat.le_of_ble_eq_true rfl) ⟨(Nat.le_of_ble_eq_true rfl), (Nat.le_of_ble_eq_true rfl), (Nat.le_of_ble_eq_true rfl), (Nat.le_of_ble_eq_true rfl)⟩ (fun v h1 hq => ?_)
                      obtain ⟨rfl, rfl⟩ := hq
                      refine z_aload_n F dX6_controls_189 rfl rfl ?_
                      refine z_iload_n F dX6_controls_190 rfl ?_
                      refine z_callV F z_nwOK wL_good (c_X6_say (b := sAN S 39 3) (show sN S 40 + 1 + 1 + 1 < 1000 by omega) (by omega)) mO_at rfl vI_X6_say vM_X6_131 vV_X6_say vL_X6_say rfl dX6_controls_191 rfl rfl (Nat.le_of_ble_eq_true rfl) ⟨(Nat.le_of_ble_eq_true rfl), (Nat.le_of_ble_eq_true rfl), (Nat.le_of_ble_eq_true rfl), (Nat.le_of_ble_eq_true rfl)⟩ (fun v h1 hq => ?_)
                      obtain ⟨rfl, rfl⟩ := hq
                      refine z_iconst (v := 0) F dX6_controls_194 rfl ?_
                      exact z_iret F hr dX6_controls_195 rfl (Nat.le_of_ble_eq_true rfl) (Nat.le_of_ble_eq_true rfl) (⟨by rw [hs]; try rfl, by rw [hs]; try rfl⟩)
                    · have hz : decide (0 < sAN S 39 3) = true := decide_eq_true (by have := mt (nI_leI (a := sAN S 39 3) (b := 0) (by omega) (by decide)).mpr c154; omega)
                      rw [hz] at hs
                      refine z_iconst (v := 1) F dX6_controls_157 rfl ?_
                      refine z_goto (tgt := 162) F dX6_controls_158 (by decide) ?_
                      refine z_zast (j := k) F dX6_controls_162 mA_14 rfl rfl (show k < 40 by omega) (Nat.le_of_ble_eq_true rfl) ?_
                      refine z_heap _ (ma_14 (v := true)) ?_
                      refine z_aload_n F dX6_controls_163 rfl rfl ?_
                      refine z_getf F vF_X6_41 dX6_controls_164 mO_at rfl ?_
                      refine z_iload_n F dX6_controls_167 rfl ?_
                      refine z_lload F dX6_controls_168 rfl ?_
                      refine z_last (j := k) F dX6_controls_170 mA_15 rfl rfl (show k < 40 by omega) (Nat.le_of_ble_eq_true rfl) ?_
                      refine z_heap _ (ma_15) ?_
                      refine z_aload_n F dX6_controls_171 rfl rfl ?_
                      refine z_bipush (v := 111) F dX6_controls_172 rfl ?_
                      refine z_aload_n F dX6_controls_174 rfl rfl ?_
                      refine z_getf F vF_X6_74 dX6_controls_175 mO_at rfl ?_
                      refine z_iconst (v := 1) F dX6_controls_178 rfl ?_
                      refine z_iald (j := 1) F dX6_controls_179 mA_39 rfl rfl (show 1 < 60 by decide) (Nat.le_of_ble_eq_true rfl) ?_
                      refine z_aload_n F dX6_controls_180 rfl rfl ?_
                      refine z_getf F vF_X6_74 dX6_controls_181 mO_at rfl ?_
                      refine z_iconst (v := 2) F dX6_controls_184 rfl ?_
                      refine z_iald (j := 2) F dX6_controls_185 mA_39 rfl rfl (show 2 < 60 by decide) (Nat.le_of_ble_eq_true rfl) ?_
                      refine z_callV F z_nwOK wL_good (c_X6_threeSaid (x := 111) (y := sAN S 39 1) (w := sAN S 39 2) (show sN S 40 < 900 by omega) (by decide) (by have := R 1; omega) (by have := R 2; omega)) mO_at rfl vI_X6_threeSaid vM_X6_176 vV_X6_threeSaid vL_X6_threeSaid rfl dX6_controls_186 rfl rfl (Nat.le_of_ble_eq_true rfl) ⟨(Nat.le_of_ble_eq_true rfl), (Nat.le_of_ble_eq_true rfl), (Nat.le_of_ble_eq_true rfl), (Nat.le_of_ble_eq_true rfl)⟩ (fun v h1 hq => ?_)
                      obtain ⟨rfl, rfl⟩ := hq
                      refine z_aload_n F dX6_controls_189 rfl rfl ?_
                      refine z_iload_n F dX6_controls_190 rfl ?_
                      refine z_callV F z_nwOK wL_good (c_X6_say (b := sAN S 39 3) (show sN S 40 + 1 + 1 + 1 < 1000 by omega) (by omega)) mO_at rfl vI_X6_say vM_X6_131 vV_X6_say vL_X6_say rfl dX6_controls_191 rfl rfl (Nat.le_of_ble_eq_true rfl) ⟨(Nat.le_of_ble_eq_true rfl), (Nat.le_of_ble_eq_true rfl), (Nat.le_of_ble_eq_true rfl), (Nat.le_of_ble_eq_true rfl)⟩ (fun v h1 hq => ?_)
                      obtain ⟨rfl, rfl⟩ := hq
                      refine z_iconst (v := 0) F dX6_controls_194 rfl ?_
                      exact z_iret F hr dX6_controls_195 rfl (Nat.le_of_ble_eq_true rfl) (Nat.le_of_ble_eq_true rfl) (⟨by rw [hs]; try rfl, by rw [hs]; try rfl⟩)
                · have hn : ¬ sN S 38 - 1 = 3 + (if sAN S 39 3 = 3 then sAN S 10 k else 0) := fun e => c98 (by rw [e, he]; first | rfl | exact (nI_add 3 _).symm)
                  have hs : sv47 S = (19, S) := by unfold sv47; rw [if_neg hp1, if_neg h3, hF]; show (if _ then _ else _) = _; rw [if_neg hj, if_neg hv, if_neg h33, if_pos hn]
                  refine z_bipush (v := 19) F dX6_controls_101 rfl ?_
                  exact z_iret F hr dX6_controls_103 rfl (Nat.le_of_ble_eq_true rfl) (Nat.le_of_ble_eq_true rfl) (⟨by rw [hs]; try rfl, by rw [hs]; try rfl⟩)
            · have h33 : 3 < sAN S 39 3 := by have := mt (nI_leI (a := sAN S 39 3) (b := 3) (by omega) (by decide)).mpr c74; omega
              have hs : sv47 S = (49, S) := by unfold sv47; rw [if_neg hp1, if_neg h3, hF]; show (if _ then _ else _) = _; rw [if_neg hj, if_neg hv, if_pos h33]
              refine z_bipush (v := 49) F dX6_controls_77 rfl ?_
              exact z_iret F hr dX6_controls_79 rfl (Nat.le_of_ble_eq_true rfl) (Nat.le_of_ble_eq_true rfl) (⟨by rw [hs]; try rfl, by rw [hs]; try rfl⟩)
          · have hv : sN S 2 < sAN S 12 k := by have := mt (nI_leI (a := sAN S 12 k) (b := sN S 2) (by have := V.2.2.2.2 k; omega) (by have := V.2.1; omega)).mpr c59; omega
            have hs : sv47 S = (51, S) := by unfold sv47; rw [if_neg hp1, if_neg h3, hF]; show (if _ then _ else _) = _; rw [if_neg hj, if_pos hv]
            refine z_bipush (v := 51) F dX6_controls_62 rfl ?_
            exact z_iret F hr dX6_controls_64 rfl (Nat.le_of_ble_eq_true rfl) (Nat.le_of_ble_eq_true rfl) (⟨by rw [hs]; try rfl, by rw [hs]; try rfl⟩)
        · have hj : sAB S 17 k = true := z_b1 c43
          have hs : sv47 S = (49, S) := by unfold sv47; rw [if_neg hp1, if_neg h3, hF]; show (if _ then _ else _) = _; rw [if_pos hj]
          refine z_bipush (v := 49) F dX6_controls_46 rfl ?_
          exact z_iret F hr dX6_controls_48 rfl (Nat.le_of_ble_eq_true rfl) (Nat.le_of_ble_eq_true rfl) (⟨by rw [hs]; try rfl, by rw [hs]; try rfl⟩)
    · have h3 : sN S 38 - 1 < 3 := by have := mt (nI_leI (a := 3) (b := sN S 38 - 1) (by decide) (by omega)).mpr c13; omega
      have hs : sv47 S = (19, S) := by unfold sv47; rw [if_neg hp1, if_pos h3]
      refine z_bipush (v := 19) F dX6_controls_16 rfl ?_
      exact z_iret F hr dX6_controls_18 rfl (Nat.le_of_ble_eq_true rfl) (Nat.le_of_ble_eq_true rfl) (⟨by rw [hs]; try rfl, by rw [hs]; try rfl⟩)
  · have hp1 : sN S 1 = 1 := (nI_eq (b := 1) (by have := V.1; omega) (by decide)).mp c5
    have hs : sv47 S = (127, S) := if_pos hp1
    refine z_bipush (v := 127) F dX6_controls_8 rfl ?_
    exact z_iret F hr dX6_controls_10 rfl (Nat.le_of_ble_eq_true rfl) (Nat.le_of_ble_eq_true rfl) (⟨by rw [hs]; try rfl, by rw [hs]; try rfl⟩)

def trOK (S : z_S) : Prop := sN S 27 ≤ 200 ∧ sN S 28 ≤ sN S 27 ∧ sN S 29 < 65536 ∧ sN S 30 < 256
/-- the sum behind the octets from place 2 on -/
def sumS (S : z_S) : Nat → Nat := sumN (sN S 29) (fun i => sAN S 39 (i + 2))
def sv54 (S : z_S) : Nat × z_S :=
  if ¬ sN S 1 = 3 then (127, S) else if (sN S 38 - 1 < 2 ∨ 9 < sN S 38 - 1) then (19, S) else if sB S 26 = false then (36, S)
  else if (sB S 31 = true ∧ sAN S 39 1 = sN S 30) then (0, sayS (sayS S 118) (sAN S 39 1))
  else if ¬ sAN S 39 1 = (if sB S 31 then (sN S 30 + 1) % 256 else 1) then (115, S)
  else if sN S 27 - sN S 28 < sN S 38 - 1 - 1 then (113, S)
  else (0, sayS (sayS (uB (uN (uN (uN S 29 (sumS S (sN S 38 - 2))) 28 (sN S 28 + (sN S 38 - 1 - 1))) 30 (sAN S 39 1)) 31 true) 118) (sAN S 39 1))

set_option maxRecDepth 100000 in
set_option maxHeartbeats 1000000 in
theorem l_X6_takes {c : Nat → z_E} {S : z_S} {o : Nat → Int64} {d : z_H} (R : rowOK S) (W : idsOK S) (V : numsOK S) (hM : sN S 38 ≤ 60) (hM1 : 1 ≤ sN S 38) (hA : sN S 40 = 0) (U : trOK S) (hn2 : 2 ≤ sN S 38 - 1) (ht : sN S 38 - 1 - 1 ≤ sN S 27 - sN S 28) (hs : sv54 S = (0, sayS (sayS (uB (uN (uN (uN S 29 (sumS S (sN S 38 - 2))) 28 (sN S 28 + (sN S 38 - 1 - 1))) 30 (sAN S 39 1)) 31 true) 118) (sAN S 39 1))) {G : z_G} {X : z_X} (F : z_F vwCl z_ats z_nw wsL_law G RX6 cX6_takes 4 (z_rm 1 0 0) X) (hr : X.2.2.2.2.2.2.2.2.1.sig.returnType = some .int) :
    ∀ (m i : Nat), i + m = sN S 38 - 2 → z_V vwCl G 4 X (z_end vwCl z_ats z_nw G X 0 0 (fun v h' => v = some (.int (nI (sv54 S).1)) ∧ h' = (HP c (mfun ((sv54 S).2) o) d))) 0 0 105 [(0, .ref 11), (1, .int (nI (sN S 38 - 1))), (2, .int (nI (sAN S 39 1))), (3, .int (nI (i + 2)))] [] (HP c (mfun (uN S 29 (sumS S i)) o) d) := by
  intro m
  induction m with
  | zero =>
    intro i hi
    obtain rfl : i = sN S 38 - 2 := by omega
    obtain ⟨u1, u2, u3, u4⟩ := U
    refine z_iload_n F dX6_takes_105 rfl ?_
    refine z_aload_n F dX6_takes_106 rfl rfl ?_
    refine z_getf F vF_X6_138 dX6_takes_107 mO_at rfl ?_
    refine z_icmp_ge (tgt := 137) F dX6_takes_110 (by decide) (fun c110 => ?_) (fun c110 => absurd (nI_le (a := sN S 38) (b := sN S 38 - 2 + 2) (by omega) (by omega)) c110)
    refine z_aload_n F dX6_takes_137 rfl rfl ?_
    refine z_dup F dX6_takes_138 rfl ?_
    refine z_getf F vF_X6_164 dX6_takes_139 mO_at rfl ?_
    refine z_iload_n F dX6_takes_142 rfl ?_
    refine z_iconst (v := 1) F dX6_takes_143 rfl ?_
    refine z_isub F dX6_takes_144 ?_
    rw [show nI (sN S 38 - 1) - 1 = nI (sN S 38 - 1 - 1) from pk_sub (b := 1) (by omega)]
    refine z_iadd F dX6_takes_145 ?_
    rw [nI_add]
    refine z_putf F vF_X6_164 vT_X6 vD_X6_28 dX6_takes_146 mO_at (Nat.le_of_ble_eq_true rfl) rfl rfl (fun g146 => ?_)
    refine z_heap _ (ms_28) ?_
    refine z_aload_n F dX6_takes_149 rfl rfl ?_
    refine z_iload_n F dX6_takes_150 rfl ?_
    refine z_putf F vF_X6_188 vT_X6 vD_X6_30 dX6_takes_151 mO_at (Nat.le_of_ble_eq_true rfl) rfl rfl (fun g151 => ?_)
    refine z_heap _ (ms_30) ?_
    refine z_aload_n F dX6_takes_154 rfl rfl ?_
    refine z_iconst (v := 1) F dX6_takes_155 rfl ?_
    refine z_putf F vF_X6_170 vT_X6 vD_X6_31 dX6_takes_156 mO_at (Nat.le_of_ble_eq_true rfl) rfl rfl (fun g156 => ?_)
    refine z_heap _ (ms_31 (v := true)) ?_
    refine z_aload_n F dX6_takes_159 rfl rfl ?_
    refine z_bipush (v := 118) F dX6_takes_160 rfl ?_
    refine z_callV F z_nwOK wL_good (c_X6_say (b := 118) (show sN S 40 < 1000 by omega) (by decide)) mO_at rfl vI_X6_say vM_X6_131 vV_X6_say vL_X6_say rfl dX6_takes_162 rfl rfl (Nat.le_of_ble_eq_true rfl) ⟨(Nat.le_of_ble_eq_true rfl), (Nat.le_of_ble_eq_true rfl), (Nat.le_of_ble_eq_true rfl), (Nat.le_of_ble_eq_true rfl)⟩ (fun v h1 hq => ?_)
    obtain ⟨rfl, rfl⟩ := hq
    refine z_aload_n F dX6_takes_165 rfl rfl ?_
    refine z_iload_n F dX6_takes_166 rfl ?_
    refine z_callV F z_nwOK wL_good (c_X6_say (b := sAN S 39 1) (show sN S 40 + 1 < 1000 by omega) (by have := R 1; omega)) mO_at rfl vI_X6_say vM_X6_131 vV_X6_say vL_X6_say rfl dX6_takes_167 rfl rfl (Nat.le_of_ble_eq_true rfl) ⟨(Nat.le_of_ble_eq_true rfl), (Nat.le_of_ble_eq_true rfl), (Nat.le_of_ble_eq_true rfl), (Nat.le_of_ble_eq_true rfl)⟩ (fun v h1 hq => ?_)
    obtain ⟨rfl, rfl⟩ := hq
    refine z_iconst (v := 0) F dX6_takes_170 rfl ?_
    exact z_iret F hr dX6_takes_171 rfl (Nat.le_of_ble_eq_true rfl) (Nat.le_of_ble_eq_true rfl) (⟨by rw [hs]; try rfl, by rw [hs]; try rfl⟩)
  | succ m ih =>
    intro i hi
    obtain ⟨u1, u2, u3, u4⟩ := id U
    have hx := R (i + 2)
    have hsm : sumS S i < 65536 := sumN_lt u3 _ i
    refine z_iload_n F dX6_takes_105 rfl ?_
    refine z_aload_n F dX6_takes_106 rfl rfl ?_
    refine z_getf F vF_X6_138 dX6_takes_107 mO_at rfl ?_
    refine z_icmp_ge (tgt := 137) F dX6_takes_110 (by decide) (fun c110 => absurd c110 (nI_ge (a := i + 2) (b := sN S 38) (by omega) (by omega))) (fun c110 => ?_)
    refine z_aload_n F dX6_takes_113 rfl rfl ?_
    refine z_aload_n F dX6_takes_114 rfl rfl ?_
    refine z_getf F vF_X6_167 dX6_takes_115 mO_at rfl ?_
    refine z_aload_n F dX6_takes_118 rfl rfl ?_
    refine z_getf F vF_X6_74 dX6_takes_119 mO_at rfl ?_
    refine z_iload_n F dX6_takes_122 rfl ?_
    refine z_iald (j := i + 2) F dX6_takes_123 mA_39 rfl rfl (show i + 2 < 60 by omega) (Nat.le_of_ble_eq_true rfl) ?_
    refine z_iadd F dX6_takes_124 ?_
    rw [nI_add]
    refine z_ldc F vK_X6_191 dX6_takes_125 ?_
    refine z_irem F dX6_takes_127 (by decide) ?_
    rw [show (65536 : Int32) = nI 65536 from rfl, pk_rem (a := sN (uN S 29 (sumS S i)) 29 + sAN (uN S 29 (sumS S i)) 39 (i + 2)) (d := 65536) (show sumS S i + sAN S 39 (i + 2) < 2 ^ 31 by omega) (by decide) (by decide)]
    refine z_putf F vF_X6_167 vT_X6 vD_X6_29 dX6_takes_128 mO_at (Nat.le_of_ble_eq_true rfl) rfl rfl (fun g128 => ?_)
    refine z_heap _ (ms_29) ?_
    refine z_iinc (w := 1) F dX6_takes_131 rfl rfl (Nat.le_of_ble_eq_true rfl) ?_
    rw [nI_1]
    refine z_goto (tgt := 105) F dX6_takes_134 (by decide) ?_
    refine z_heap _ (z_hS (S2 := uN S 29 (sumS S (i + 1))) (uN_again S 29 _ _)) ?_
    exact ih (i + 1) (by omega)

set_option maxRecDepth 100000 in
set_option maxHeartbeats 1000000 in
theorem c_X6_takes {c : Nat → z_E} {S : z_S} {o : Nat → Int64} {d : z_H} (R : rowOK S) (W : idsOK S) (V : numsOK S) (hM : sN S 38 ≤ 60) (hM1 : 1 ≤ sN S 38) (hA : sN S 40 = 0) (U : trOK S) : z_K yX6_takes cX6_takes 4 (some .int) 1 0 0 [.ref 11, .int (nI (sN S 38 - 1))] (HP c (mfun S o) d) (fun v h' => v = some (.int (nI (sv54 S).1)) ∧ h' = (HP c (mfun ((sv54 S).2) o) d)) := by
  refine z_met vI_X6_takes (Nat.le_of_ble_eq_true rfl) (fun G X F hr hnm => ?_)
  refine z_aload_n F dX6_takes_0 rfl rfl ?_
  refine z_getf F vF_X6_7 dX6_takes_1 mO_at rfl ?_
  refine z_iconst (v := 3) F dX6_takes_4 rfl ?_
  refine z_icmp_eq (tgt := 11) F dX6_takes_5 (by decide) (fun c5 => ?_) (fun c5 => ?_)
  · have hp3 : sN S 1 = 3 := (nI_eq (b := 3) (by have := V.1; omega) (by decide)).mp c5
    refine z_iload_n F dX6_takes_11 rfl ?_
    refine z_iconst (v := 2) F dX6_takes_12 rfl ?_
    refine z_icmp_lt (tgt := 22) F dX6_takes_13 (by decide) (fun c13 => ?_) (fun c13 => ?_)
    · have hn : sN S 38 - 1 < 2 ∨ 9 < sN S 38 - 1 := Or.inl ((nI_ltI (b := 2) (by omega) (by decide)).mp c13)
      have hs : sv54 S = (19, S) := by unfold sv54; rw [if_neg (not_not_intro hp3), if_pos hn]
      refine z_bipush (v := 19) F dX6_takes_22 rfl ?_
      exact z_iret F hr dX6_takes_24 rfl (Nat.le_of_ble_eq_true rfl) (Nat.le_of_ble_eq_true rfl) (⟨by rw [hs]; try rfl, by rw [hs]; try rfl⟩)
    · have hn1 : ¬ sN S 38 - 1 < 2 := mt (nI_ltI (b := 2) (by omega) (by decide)).mpr c13
      refine z_iload_n F dX6_takes_16 rfl ?_
      refine z_bipush (v := 9) F dX6_takes_17 rfl ?_
      refine z_icmp_le (tgt := 25) F dX6_takes_19 (by decide) (fun c19 => ?_) (fun c19 => ?_)
      · have hn2 := (nI_leI (b := 9) (by omega) (by decide)).mp c19
        have hn : ¬ (sN S 38 - 1 < 2 ∨ 9 < sN S 38 - 1) := by omega
        refine z_aload_n F dX6_takes_25 rfl rfl ?_
        refine z_getf F vF_X6_135 dX6_takes_26 mO_at rfl ?_
        refine z_if_ne (tgt := 35) F dX6_takes_29 (by decide) (fun c29 => ?_) (fun c29 => ?_)
        · have ho : ¬ sB S 26 = false := by rw [z_b1 c29]; decide
          obtain ⟨u1, u2, u3, u4⟩ := id U
          have hr1 := R 1
          refine z_aload_n F dX6_takes_35 rfl rfl ?_
          refine z_getf F vF_X6_74 dX6_takes_36 mO_at rfl ?_
          refine z_iconst (v := 1) F dX6_takes_39 rfl ?_
          refine z_iald (j := 1) F dX6_takes_40 mA_39 rfl rfl (show 1 < 60 by decide) (Nat.le_of_ble_eq_true rfl) ?_
          refine z_istore_n F dX6_takes_41 (Nat.le_of_ble_eq_true rfl) ?_
          refine z_aload_n F dX6_takes_42 rfl rfl ?_
          refine z_getf F vF_X6_170 dX6_takes_43 mO_at rfl ?_
          refine z_if_eq (tgt := 57) F dX6_takes_46 (by decide) (fun c46 => ?_) (fun c46 => ?_)
          · have hB : sB S 31 = false := z_b0.mp c46
            have hbf : ¬ (sB S 31 = true ∧ sAN S 39 1 = sN S 30) := by rw [hB]; simp
            refine z_iload_n F dX6_takes_57 rfl ?_
            refine z_aload_n F dX6_takes_58 rfl rfl ?_
            refine z_getf F vF_X6_170 dX6_takes_59 mO_at rfl ?_
            refine z_if_eq (tgt := 78) F dX6_takes_62 (by decide) (fun c62 => ?_) (fun c62 => absurd (by rw [hB]; rfl) c62)
            refine z_iconst (v := 1) F dX6_takes_78 rfl ?_
            refine z_icmp_eq (tgt := 85) F dX6_takes_79 (by decide) (fun c79 => ?_) (fun c79 => ?_)
            · have hc : sAN S 39 1 = (if sB S 31 then (sN S 30 + 1) % 256 else 1) := by rw [hB]; exact (nI_eq (b := 1) (by omega) (by omega)).mp c79
              refine z_iload_n F dX6_takes_85 rfl ?_
              refine z_iconst (v := 1) F dX6_takes_86 rfl ?_
              refine z_isub F dX6_takes_87 ?_
              refine z_aload_n F dX6_takes_88 rfl rfl ?_
              refine z_getf F vF_X6_161 dX6_takes_89 mO_at rfl ?_
              refine z_aload_n F dX6_takes_92 rfl rfl ?_
              refine z_getf F vF_X6_164 dX6_takes_93 mO_at rfl ?_
              refine z_isub F dX6_takes_96 ?_
              rw [pk_sub (a := sN S 27) (b := sN S 28) (by omega), show nI (sN S 38 - 1) - 1 = nI (sN S 38 - 1 - 1) from pk_sub (b := 1) (by omega)]
              refine z_icmp_le (tgt := 103) F dX6_takes_97 (by decide) (fun c97 => ?_) (fun c97 => ?_)
              · have ht : ¬ sN S 27 - sN S 28 < sN S 38 - 1 - 1 := by have := (nI_leI (a := sN S 38 - 1 - 1) (b := sN S 27 - sN S 28) (by omega) (by omega)).mp c97; omega
                have hs : sv54 S = (0, sayS (sayS (uB (uN (uN (uN S 29 (sumS S (sN S 38 - 2))) 28 (sN S 28 + (sN S 38 - 1 - 1))) 30 (sAN S 39 1)) 31 true) 118) (sAN S 39 1)) := by unfold sv54; rw [if_neg (not_not_intro hp3), if_neg hn, if_neg ho, if_neg hbf, if_neg (not_not_intro hc), if_neg ht]
                refine z_iconst (v := 2) F dX6_takes_103 rfl ?_
                refine z_istore_n F dX6_takes_104 (Nat.le_of_ble_eq_true rfl) ?_
                refine z_heap _ (z_hS (S2 := uN S 29 (sumS S 0)) (by unfold uN; rw [show va_up S.1 29 (sumS S 0) = S.1 from va_same _ _])) ?_
                exact l_X6_takes R W V hM hM1 hA U (by omega) (by omega) hs F hr (sN S 38 - 2) 0 (by omega)
              · have ht : sN S 27 - sN S 28 < sN S 38 - 1 - 1 := by have := mt (nI_leI (a := sN S 38 - 1 - 1) (b := sN S 27 - sN S 28) (by omega) (by omega)).mpr c97; omega
                have hs : sv54 S = (113, S) := by unfold sv54; rw [if_neg (not_not_intro hp3), if_neg hn, if_neg ho, if_neg hbf, if_neg (not_not_intro hc), if_pos ht]
                refine z_bipush (v := 113) F dX6_takes_100 rfl ?_
                exact z_iret F hr dX6_takes_102 rfl (Nat.le_of_ble_eq_true rfl) (Nat.le_of_ble_eq_true rfl) (⟨by rw [hs]; try rfl, by rw [hs]; try rfl⟩)
            · have hc : ¬ sAN S 39 1 = (if sB S 31 then (sN S 30 + 1) % 256 else 1) := by rw [hB]; exact fun e => c79 (by rw [show sAN S 39 1 = 1 from e]; try rfl)
              have hs : sv54 S = (115, S) := by unfold sv54; rw [if_neg (not_not_intro hp3), if_neg hn, if_neg ho, if_neg hbf, if_pos hc]
              refine z_bipush (v := 115) F dX6_takes_82 rfl ?_
              exact z_iret F hr dX6_takes_84 rfl (Nat.le_of_ble_eq_true rfl) (Nat.le_of_ble_eq_true rfl) (⟨by rw [hs]; try rfl, by rw [hs]; try rfl⟩)
          · have hB : sB S 31 = true := z_b1 c46
            refine z_iload_n F dX6_takes_49 rfl ?_
            refine z_aload_n F dX6_takes_50 rfl rfl ?_
            refine z_getf F vF_X6_188 dX6_takes_51 mO_at rfl ?_
            refine z_icmp_eq (tgt := 159) F dX6_takes_54 (by decide) (fun c54 => ?_) (fun c54 => ?_)
            · have hs : sv54 S = (0, sayS (sayS S 118) (sAN S 39 1)) := by unfold sv54; rw [if_neg (not_not_intro hp3), if_neg hn, if_neg ho, if_pos ⟨hB, (nI_eq (by omega) (by omega)).mp c54⟩]
              refine z_aload_n F dX6_takes_159 rfl rfl ?_
              refine z_bipush (v := 118) F dX6_takes_160 rfl ?_
              refine z_callV F z_nwOK wL_good (c_X6_say (b := 118) (show sN S 40 < 1000 by omega) (by decide)) mO_at rfl vI_X6_say vM_X6_131 vV_X6_say vL_X6_say rfl dX6_takes_162 rfl rfl (Nat.le_of_ble_eq_true rfl) ⟨(Nat.le_of_ble_eq_true rfl), (Nat.le_of_ble_eq_true rfl), (Nat.le_of_ble_eq_true rfl), (Nat.le_of_ble_eq_true rfl)⟩ (fun v h1 hq => ?_)
              obtain ⟨rfl, rfl⟩ := hq
              refine z_aload_n F dX6_takes_165 rfl rfl ?_
              refine z_iload_n F dX6_takes_166 rfl ?_
              refine z_callV F z_nwOK wL_good (c_X6_say (b := sAN S 39 1) (show sN S 40 + 1 < 1000 by omega) (by have := R 1; omega)) mO_at rfl vI_X6_say vM_X6_131 vV_X6_say vL_X6_say rfl dX6_takes_167 rfl rfl (Nat.le_of_ble_eq_true rfl) ⟨(Nat.le_of_ble_eq_true rfl), (Nat.le_of_ble_eq_true rfl), (Nat.le_of_ble_eq_true rfl), (Nat.le_of_ble_eq_true rfl)⟩ (fun v h1 hq => ?_)
              obtain ⟨rfl, rfl⟩ := hq
              refine z_iconst (v := 0) F dX6_takes_170 rfl ?_
              exact z_iret F hr dX6_takes_171 rfl (Nat.le_of_ble_eq_true rfl) (Nat.le_of_ble_eq_true rfl) (⟨by rw [hs]; try rfl, by rw [hs]; try rfl⟩)
            · have hbf : ¬ (sB S 31 = true ∧ sAN S 39 1 = sN S 30) := fun e => c54 (by rw [e.2])
              refine z_iload_n F dX6_takes_57 rfl ?_
              refine z_aload_n F dX6_takes_58 rfl rfl ?_
              refine z_getf F vF_X6_170 dX6_takes_59 mO_at rfl ?_
              refine z_if_eq (tgt := 78) F dX6_takes_62 (by decide) (fun c62 => absurd (z_b0.mp c62) (by rw [hB]; decide)) (fun c62 => ?_)
              refine z_aload_n F dX6_takes_65 rfl rfl ?_
              refine z_getf F vF_X6_188 dX6_takes_66 mO_at rfl ?_
              refine z_iconst (v := 1) F dX6_takes_69 rfl ?_
              refine z_iadd F dX6_takes_70 ?_
              refine z_sipush (v := 256) F dX6_takes_71 rfl ?_
              refine z_irem F dX6_takes_74 (by decide) ?_
              refine z_goto (tgt := 79) F dX6_takes_75 (by decide) ?_
              rw [nI_1, show (256 : Int32) = nI 256 from rfl, pk_rem (a := sN S 30 + 1) (by omega) (by decide) (by decide)]
              refine z_icmp_eq (tgt := 85) F dX6_takes_79 (by decide) (fun c79 => ?_) (fun c79 => ?_)
              · have hc : sAN S 39 1 = (if sB S 31 then (sN S 30 + 1) % 256 else 1) := by rw [hB]; exact (nI_eq (b := (sN S 30 + 1) % 256) (by omega) (by omega)).mp c79
                refine z_iload_n F dX6_takes_85 rfl ?_
                refine z_iconst (v := 1) F dX6_takes_86 rfl ?_
                refine z_isub F dX6_takes_87 ?_
                refine z_aload_n F dX6_takes_88 rfl rfl ?_
                refine z_getf F vF_X6_161 dX6_takes_89 mO_at rfl ?_
                refine z_aload_n F dX6_takes_92 rfl rfl ?_
                refine z_getf F vF_X6_164 dX6_takes_93 mO_at rfl ?_
                refine z_isub F dX6_takes_96 ?_
                rw [pk_sub (a := sN S 27) (b := sN S 28) (by omega), show nI (sN S 38 - 1) - 1 = nI (sN S 38 - 1 - 1) from pk_sub (b := 1) (by omega)]
                refine z_icmp_le (tgt := 103) F dX6_takes_97 (by decide) (fun c97 => ?_) (fun c97 => ?_)
                · have ht : ¬ sN S 27 - sN S 28 < sN S 38 - 1 - 1 := by have := (nI_leI (a := sN S 38 - 1 - 1) (b := sN S 27 - sN S 28) (by omega) (by omega)).mp c97; omega
                  have hs : sv54 S = (0, sayS (sayS (uB (uN (uN (uN S 29 (sumS S (sN S 38 - 2))) 28 (sN S 28 + (sN S 38 - 1 - 1))) 30 (sAN S 39 1)) 31 true) 118) (sAN S 39 1)) := by unfold sv54; rw [if_neg (not_not_intro hp3), if_neg hn, if_neg ho, if_neg hbf, if_neg (not_not_intro hc), if_neg ht]
                  refine z_iconst (v := 2) F dX6_takes_103 rfl ?_
                  refine z_istore_n F dX6_takes_104 (Nat.le_of_ble_eq_true rfl) ?_
                  refine z_heap _ (z_hS (S2 := uN S 29 (sumS S 0)) (by unfold uN; rw [show va_up S.1 29 (sumS S 0) = S.1 from va_same _ _])) ?_
                  exact l_X6_takes R W V hM hM1 hA U (by omega) (by omega) hs F hr (sN S 38 - 2) 0 (by omega)
                · have ht : sN S 27 - sN S 28 < sN S 38 - 1 - 1 := by have := mt (nI_leI (a := sN S 38 - 1 - 1) (b := sN S 27 - sN S 28) (by omega) (by omega)).mpr c97; omega
                  have hs : sv54 S = (113, S) := by unfold sv54; rw [if_neg (not_not_intro hp3), if_neg hn, if_neg ho, if_neg hbf, if_neg (not_not_intro hc), if_pos ht]
                  refine z_bipush (v := 113) F dX6_takes_100 rfl ?_
                  exact z_iret F hr dX6_takes_102 rfl (Nat.le_of_ble_eq_true rfl) (Nat.le_of_ble_eq_true rfl) (⟨by rw [hs]; try rfl, by rw [hs]; try rfl⟩)
              · have hc : ¬ sAN S 39 1 = (if sB S 31 then (sN S 30 + 1) % 256 else 1) := by rw [hB]; exact fun e => c79 (by rw [show sAN S 39 1 = (sN S 30 + 1) % 256 from e]; try rfl)
                have hs : sv54 S = (115, S) := by unfold sv54; rw [if_neg (not_not_intro hp3), if_neg hn, if_neg ho, if_neg hbf, if_pos hc]
                refine z_bipush (v := 115) F dX6_takes_82 rfl ?_
                exact z_iret F hr dX6_takes_84 rfl (Nat.le_of_ble_eq_true rfl) (Nat.le_of_ble_eq_true rfl) (⟨by rw [hs]; try rfl, by rw [hs]; try rfl⟩)
        · have ho : sB S 26 = false := z_b0.mp c29
          have hs : sv54 S = (36, S) := by unfold sv54; rw [if_neg (not_not_intro hp3), if_neg hn, if_pos ho]
          refine z_bipush (v := 36) F dX6_takes_32 rfl ?_
          exact z_iret F hr dX6_takes_34 rfl (Nat.le_of_ble_eq_true rfl) (Nat.le_of_ble_eq_true rfl) (⟨by rw [hs]; try rfl, by rw [hs]; try rfl⟩)
      · have hn : sN S 38 - 1 < 2 ∨ 9 < sN S 38 - 1 := Or.inr (by have := mt (nI_leI (a := sN S 38 - 1) (b := 9) (by omega) (by decide)).mpr c19; omega)
        have hs : sv54 S = (19, S) := by unfold sv54; rw [if_neg (not_not_intro hp3), if_pos hn]
        refine z_bipush (v := 19) F dX6_takes_22 rfl ?_
        exact z_iret F hr dX6_takes_24 rfl (Nat.le_of_ble_eq_true rfl) (Nat.le_of_ble_eq_true rfl) (⟨by rw [hs]; try rfl, by rw [hs]; try rfl⟩)
  · have hp3 : ¬ sN S 1 = 3 := fun e => c5 (by rw [e]; rfl)
    have hs : sv54 S = (127, S) := if_pos hp3
    refine z_bipush (v := 127) F dX6_takes_8 rfl ?_
    exact z_iret F hr dX6_takes_10 rfl (Nat.le_of_ble_eq_true rfl) (Nat.le_of_ble_eq_true rfl) (⟨by rw [hs]; try rfl, by rw [hs]; try rfl⟩)
end
section
theorem z_pick {cl : List vw_C} {G : z_G} {nL : Nat} {X : z_X} {Q : State → Prop} {cells slots pc : Nat} {lv lv' : List (Nat × Value)} {st : List Value} {h : z_H} (ks : List Nat) (hl : lv_pick lv ks = lv') (k : z_V cl G nL X Q cells slots pc lv' st h) : z_V cl G nL X Q cells slots pc lv st h := by
  intro H locs ls a b d
  refine k H locs ls a b ⟨d.1, d.2.1, fun q hq => d.2.2 q ?_⟩
  obtain ⟨q0, h1, rfl⟩ := List.mem_map.mp hq
  rw [← hl] at h1
  obtain ⟨i, -, hi⟩ := List.mem_filterMap.mp h1
  exact List.mem_map.mpr ⟨q0, List.mem_of_getElem? hi, rfl⟩
/-- the last place with this number -/
def lst (f : Nat → Int32) (x : Int32) : Nat → Option Nat
  | 0 => none
  | n + 1 => if f n = x then some n else lst f x n
theorem lst_lt {f : Nat → Int32} {x : Int32} : ∀ {n k : Nat}, lst f x n = some k → k < n
  | n + 1, k, h => by
    unfold lst at h
    split at h
    · cases h; omega
    · have := lst_lt h; omega
def rtsOK (S : z_S) : Prop := sN S 20 ≤ 10 ∧ (∀ k, sAN S 22 k ≤ 100) ∧ (∀ k, sAN S 24 k ≤ 100) ∧ ∀ k, sAN S 25 k ≤ 10
def say5 (S : z_S) (f r : Nat) : z_S := sayS (sayS (sayS (sayS (sayS S 113) f) (sAN S 39 2)) (sAN S 39 3)) (sAN S 24 r)
def sv49 (S : z_S) : Nat × z_S :=
  if sN S 1 = 1 then (127, S) else if ¬ sN S 38 - 1 = 3 then (19, S) else if ¬ (1 ≤ sAN S 39 1 % 128 ∧ sAN S 39 1 % 128 ≤ 3) then (18, S) else
  match lst (sAI S 21) (nI (toldN S 2)) (sN S 20) with
  | none => (49, S)
  | some r =>
    if sAN S 39 1 % 128 = 1 then
      (if 0 < sAN S 24 r then (36, S) else if sB S 5 = false then (34, S)
       else (0, say5 (uAN (uAN (uAB S 23 (va_up (sAB S 23) r true)) 24 (va_up (sAN S 24) r (sAN S 22 r))) 25 (va_up (sAN S 25) r 0)) 1 r))
    else if sAB S 23 r = false then (36, S)
    else if sAN S 39 1 % 128 = 2 then (0, say5 (uAN S 24 (va_up (sAN S 24) r 0)) 2 r)
    else if 0 < sAN S 24 r then (if sN S 7 ≤ sAN S 25 r then (16, S) else (120, uAN S 25 (va_up (sAN S 25) r (sAN S 25 r + 1))))
    else (0, say5 S 3 r)

set_option maxRecDepth 100000 in
set_option maxHeartbeats 1000000 in
theorem t_X6_runs_s {c : Nat → z_E} {S : z_S} {o : Nat → Int64} {d : z_H} (R : rowOK S) (W : idsOK S) (V : numsOK S) (hM : sN S 38 ≤ 60) (hM1 : 1 ≤ sN S 38) (hA : sN S 40 = 0) {x : Int32} (hx : 2 ≤ sN S 38 → x = nI (sAN S 39 1 % 128)) (U : rtsOK S) (f0 : x = nI (sAN S 39 1 % 128)) (hp1 : ¬ sN S 1 = 1) (hn : sN S 38 - 1 = 3) (hf : 1 ≤ sAN S 39 1 % 128 ∧ sAN S 39 1 % 128 ≤ 3) {r : Nat} (hF : lst (sAI S 21) (nI (toldN S 2)) (sN S 20) = some r) {G : z_G} {X : z_X} (F : z_F vwCl z_ats z_nw wsL_law G RX6 cX6_runs 5 (z_rm 1 0 0) X) (hr : X.2.2.2.2.2.2.2.2.1.sig.returnType = some .int) : z_V vwCl G 5 X (z_end vwCl z_ats z_nw G X 0 0 (fun v h' => v = some (.int (nI (sv49 S).1)) ∧ h' = (HP c (mfun ((sv49 S).2) o) d))) 0 0 76 [(0, .ref 11), (1, .int (nI (sN S 38 - 1))), (2, .int (nI (sAN S 39 1 % 128))), (3, .int (fI (some r)))] [] (HP c (mfun S o) d) := by
  have hr10 := lst_lt hF
  obtain ⟨u1, u2, u3, u4⟩ := id U
  have u3r := u3 r
  have u4r := u4 r
  have v7 := V.2.2.1
  have r10 : r < 10 := by omega
  refine z_iload_n F dX6_runs_76 rfl ?_
  refine z_if_ge (tgt := 83) F dX6_runs_77 (by decide) (fun c77 => ?_) (fun c77 => absurd (nI_pos' (by omega)) c77)
  refine z_iload_n F dX6_runs_83 rfl ?_
  refine z_iconst (v := 1) F dX6_runs_84 rfl ?_
  refine z_icmp_ne (tgt := 139) F dX6_runs_85 (by decide) (fun c85 => ?_) (fun c85 => ?_)
  · have f1 : ¬ sAN S 39 1 % 128 = 1 := fun e => c85 (by rw [e]; rfl)
    refine z_aload_n F dX6_runs_139 rfl rfl ?_
    refine z_getf F vF_X6_62 dX6_runs_140 mO_at rfl ?_
    refine z_iload_n F dX6_runs_143 rfl ?_
    refine z_zald (j := r) F dX6_runs_144 mA_23 rfl rfl (show r < 10 by omega) (Nat.le_of_ble_eq_true rfl) ?_
    refine z_if_ne (tgt := 151) F dX6_runs_145 (by decide) (fun c145 => ?_) (fun c145 => ?_)
    · have hd : ¬ sAB S 23 r = false := by rw [z_b1 c145]; decide
      refine z_iload_n F dX6_runs_151 rfl ?_
      refine z_iconst (v := 2) F dX6_runs_152 rfl ?_
      refine z_icmp_ne (tgt := 163) F dX6_runs_153 (by decide) (fun c153 => ?_) (fun c153 => ?_)
      · have f2 : ¬ sAN S 39 1 % 128 = 2 := fun e => c153 (by rw [e]; rfl)
        have f3 : sAN S 39 1 % 128 = 3 := by omega
        rw [f3]
        refine z_aload_n F dX6_runs_163 rfl rfl ?_
        refine z_getf F vF_X6_65 dX6_runs_164 mO_at rfl ?_
        refine z_iload_n F dX6_runs_167 rfl ?_
        refine z_iald (j := r) F dX6_runs_168 mA_24 rfl rfl (show r < 10 by omega) (Nat.le_of_ble_eq_true rfl) ?_
        refine z_if_le (tgt := 201) F dX6_runs_169 (by decide) (fun c169 => ?_) (fun c169 => ?_)
        · have hl : ¬ 0 < sAN S 24 r := by have := (nI_leI (a := sAN S 24 r) (b := 0) (by omega) (by decide)).mp c169; omega
          have hs : sv49 S = (0, say5 S 3 r) := by unfold sv49; rw [if_neg hp1, if_neg (not_not_intro hn), if_neg (not_not_intro hf), hF]; show (if _ then _ else _) = _; rw [if_neg f1, if_neg hd, if_neg f2, if_neg hl]
          refine z_aload_n F dX6_runs_201 rfl rfl ?_
          refine z_bipush (v := 113) F dX6_runs_202 rfl ?_
          refine z_callV F z_nwOK wL_good (c_X6_say (S := S) (b := 113) (show sN S 40 < 1000 by omega) (by decide)) mO_at rfl vI_X6_say vM_X6_131 vV_X6_say vL_X6_say rfl dX6_runs_204 rfl rfl (Nat.le_of_ble_eq_true rfl) ⟨(Nat.le_of_ble_eq_true rfl), (Nat.le_of_ble_eq_true rfl), (Nat.le_of_ble_eq_true rfl), (Nat.le_of_ble_eq_true rfl)⟩ (fun v h1 hq => ?_)
          obtain ⟨rfl, rfl⟩ := hq
          refine z_aload_n F dX6_runs_207 rfl rfl ?_
          refine z_iload_n F dX6_runs_208 rfl ?_
          refine z_callV F z_nwOK wL_good (c_X6_say (S := sayS (S) (113)) (b := 3) (show sN S 40 + 1 < 1000 by omega) (by decide)) mO_at rfl vI_X6_say vM_X6_131 vV_X6_say vL_X6_say rfl dX6_runs_209 rfl rfl (Nat.le_of_ble_eq_true rfl) ⟨(Nat.le_of_ble_eq_true rfl), (Nat.le_of_ble_eq_true rfl), (Nat.le_of_ble_eq_true rfl), (Nat.le_of_ble_eq_true rfl)⟩ (fun v h1 hq => ?_)
          obtain ⟨rfl, rfl⟩ := hq
          refine z_aload_n F dX6_runs_212 rfl rfl ?_
          refine z_aload_n F dX6_runs_213 rfl rfl ?_
          refine z_getf F vF_X6_74 dX6_runs_214 mO_at rfl ?_
          refine z_iconst (v := 2) F dX6_runs_217 rfl ?_
          refine z_iald (j := 2) F dX6_runs_218 mA_39 rfl rfl (show 2 < 60 by decide) (Nat.le_of_ble_eq_true rfl) ?_
          refine z_callV F z_nwOK wL_good (c_X6_say (S := sayS (sayS (S) (113)) (3)) (b := sAN S 39 2) (show sN S 40 + 1 + 1 < 1000 by omega) (by have := R 2; omega)) mO_at rfl vI_X6_say vM_X6_131 vV_X6_say vL_X6_say rfl dX6_runs_219 rfl rfl (Nat.le_of_ble_eq_true rfl) ⟨(Nat.le_of_ble_eq_true rfl), (Nat.le_of_ble_eq_true rfl), (Nat.le_of_ble_eq_true rfl), (Nat.le_of_ble_eq_true rfl)⟩ (fun v h1 hq => ?_)
          obtain ⟨rfl, rfl⟩ := hq
          refine z_aload_n F dX6_runs_222 rfl rfl ?_
          refine z_aload_n F dX6_runs_223 rfl rfl ?_
          refine z_getf F vF_X6_74 dX6_runs_224 mO_at rfl ?_
          refine z_iconst (v := 3) F dX6_runs_227 rfl ?_
          refine z_iald (j := 3) F dX6_runs_228 mA_39 rfl rfl (show 3 < 60 by decide) (Nat.le_of_ble_eq_true rfl) ?_
          refine z_callV F z_nwOK wL_good (c_X6_say (S := sayS (sayS (sayS (S) (113)) (3)) (sAN S 39 2)) (b := sAN S 39 3) (show sN S 40 + 1 + 1 + 1 < 1000 by omega) (by have := R 3; omega)) mO_at rfl vI_X6_say vM_X6_131 vV_X6_say vL_X6_say rfl dX6_runs_229 rfl rfl (Nat.le_of_ble_eq_true rfl) ⟨(Nat.le_of_ble_eq_true rfl), (Nat.le_of_ble_eq_true rfl), (Nat.le_of_ble_eq_true rfl), (Nat.le_of_ble_eq_true rfl)⟩ (fun v h1 hq => ?_)
          obtain ⟨rfl, rfl⟩ := hq
          refine z_aload_n F dX6_runs_232 rfl rfl ?_
          refine z_aload_n F dX6_runs_233 rfl rfl ?_
          refine z_getf F vF_X6_65 dX6_runs_234 mO_at rfl ?_
          refine z_iload_n F dX6_runs_237 rfl ?_
          refine z_iald (j := r) F dX6_runs_238 mA_24 rfl rfl (show r < 10 by omega) (Nat.le_of_ble_eq_true rfl) ?_
          refine z_callV F z_nwOK wL_good (c_X6_say (S := sayS (sayS (sayS (sayS (S) (113)) (3)) (sAN S 39 2)) (sAN S 39 3)) (b := sAN (S) 24 r) (show sN S 40 + 1 + 1 + 1 + 1 < 1000 by omega) (by omega)) mO_at rfl vI_X6_say vM_X6_131 vV_X6_say vL_X6_say rfl dX6_runs_239 rfl rfl (Nat.le_of_ble_eq_true rfl) ⟨(Nat.le_of_ble_eq_true rfl), (Nat.le_of_ble_eq_true rfl), (Nat.le_of_ble_eq_true rfl), (Nat.le_of_ble_eq_true rfl)⟩ (fun v h1 hq => ?_)
          obtain ⟨rfl, rfl⟩ := hq
          refine z_iconst (v := 0) F dX6_runs_242 rfl ?_
          exact z_iret F hr dX6_runs_243 rfl (Nat.le_of_ble_eq_true rfl) (Nat.le_of_ble_eq_true rfl) (⟨by rw [hs]; try rfl, by rw [hs]; try rfl⟩)
        · have hl : 0 < sAN S 24 r := by have := mt (nI_leI (a := sAN S 24 r) (b := 0) (by omega) (by decide)).mpr c169; omega
          refine z_aload_n F dX6_runs_172 rfl rfl ?_
          refine z_getf F vF_X6_68 dX6_runs_173 mO_at rfl ?_
          refine z_iload_n F dX6_runs_176 rfl ?_
          refine z_iald (j := r) F dX6_runs_177 mA_25 rfl rfl (show r < 10 by omega) (Nat.le_of_ble_eq_true rfl) ?_
          refine z_aload_n F dX6_runs_178 rfl rfl ?_
          refine z_getf F vF_X6_117 dX6_runs_179 mO_at rfl ?_
          refine z_icmp_lt (tgt := 188) F dX6_runs_182 (by decide) (fun c182 => ?_) (fun c182 => ?_)
          · have hb : ¬ sN S 7 ≤ sAN S 25 r := by have := (nI_ltI (a := sAN S 25 r) (b := sN S 7) (by omega) (by omega)).mp c182; omega
            have hs : sv49 S = (120, uAN S 25 (va_up (sAN S 25) r (sAN S 25 r + 1))) := by unfold sv49; rw [if_neg hp1, if_neg (not_not_intro hn), if_neg (not_not_intro hf), hF]; show (if _ then _ else _) = _; rw [if_neg f1, if_neg hd, if_neg f2, if_pos hl, if_neg hb]
            refine z_aload_n F dX6_runs_188 rfl rfl ?_
            refine z_getf F vF_X6_68 dX6_runs_189 mO_at rfl ?_
            refine z_iload_n F dX6_runs_192 rfl ?_
            refine z_dup2 F dX6_runs_193 rfl rfl ?_
            refine z_iald (j := r) F dX6_runs_194 mA_25 rfl rfl (show r < 10 by omega) (Nat.le_of_ble_eq_true rfl) ?_
            refine z_iconst (v := 1) F dX6_runs_195 rfl ?_
            refine z_iadd F dX6_runs_196 ?_
            rw [nI_1]
            refine z_iast (j := r) F dX6_runs_197 mA_25 rfl rfl (show r < 10 by omega) (Nat.le_of_ble_eq_true rfl) ?_
            refine z_heap _ (ma_25) ?_
            refine z_bipush (v := 120) F dX6_runs_198 rfl ?_
            exact z_iret F hr dX6_runs_200 rfl (Nat.le_of_ble_eq_true rfl) (Nat.le_of_ble_eq_true rfl) (⟨by rw [hs]; try rfl, by rw [hs]; try rfl⟩)
          · have hb : sN S 7 ≤ sAN S 25 r := by have := mt (nI_ltI (a := sAN S 25 r) (b := sN S 7) (by omega) (by omega)).mpr c182; omega
            have hs : sv49 S = (16, S) := by unfold sv49; rw [if_neg hp1, if_neg (not_not_intro hn), if_neg (not_not_intro hf), hF]; show (if _ then _ else _) = _; rw [if_neg f1, if_neg hd, if_neg f2, if_pos hl, if_pos hb]
            refine z_bipush (v := 16) F dX6_runs_185 rfl ?_
            exact z_iret F hr dX6_runs_187 rfl (Nat.le_of_ble_eq_true rfl) (Nat.le_of_ble_eq_true rfl) (⟨by rw [hs]; try rfl, by rw [hs]; try rfl⟩)
      · have f2 : sAN S 39 1 % 128 = 2 := (nI_eq (b := 2) (by omega) (by decide)).mp c153
        have hs : sv49 S = (0, say5 (uAN S 24 (va_up (sAN S 24) r 0)) 2 r) := by unfold sv49; rw [if_neg hp1, if_neg (not_not_intro hn), if_neg (not_not_intro hf), hF]; show (if _ then _ else _) = _; rw [if_neg f1, if_neg hd, if_pos f2]
        rw [f2]
        refine z_aload_n F dX6_runs_156 rfl rfl ?_
        refine z_getf F vF_X6_65 dX6_runs_157 mO_at rfl ?_
        refine z_iload_n F dX6_runs_160 rfl ?_
        refine z_iconst (v := 0) F dX6_runs_161 rfl ?_
        refine z_iast (j := r) F dX6_runs_162 mA_24 rfl rfl (show r < 10 by omega) (Nat.le_of_ble_eq_true rfl) ?_
        refine z_heap _ (ma_24 (v := 0)) ?_
        refine z_aload_n F dX6_runs_163 rfl rfl ?_
        refine z_getf F vF_X6_65 dX6_runs_164 mO_at rfl ?_
        refine z_iload_n F dX6_runs_167 rfl ?_
        refine z_iald (j := r) F dX6_runs_168 mA_24 rfl rfl (show r < 10 by omega) (Nat.le_of_ble_eq_true rfl) ?_
        refine z_if_le (tgt := 201) F dX6_runs_169 (by decide) (fun c169 => ?_) (fun c169 => ?_)
        · refine z_aload_n F dX6_runs_201 rfl rfl ?_
          refine z_bipush (v := 113) F dX6_runs_202 rfl ?_
          refine z_callV F z_nwOK wL_good (c_X6_say (S := uAN S 24 (va_up (sAN S 24) r 0)) (b := 113) (show sN S 40 < 1000 by omega) (by decide)) mO_at rfl vI_X6_say vM_X6_131 vV_X6_say vL_X6_say rfl dX6_runs_204 rfl rfl (Nat.le_of_ble_eq_true rfl) ⟨(Nat.le_of_ble_eq_true rfl), (Nat.le_of_ble_eq_true rfl), (Nat.le_of_ble_eq_true rfl), (Nat.le_of_ble_eq_true rfl)⟩ (fun v h1 hq => ?_)
          obtain ⟨rfl, rfl⟩ := hq
          refine z_aload_n F dX6_runs_207 rfl rfl ?_
          refine z_iload_n F dX6_runs_208 rfl ?_
          refine z_callV F z_nwOK wL_good (c_X6_say (S := sayS (uAN S 24 (va_up (sAN S 24) r 0)) (113)) (b := 2) (show sN S 40 + 1 < 1000 by omega) (by decide)) mO_at rfl vI_X6_say vM_X6_131 vV_X6_say vL_X6_say rfl dX6_runs_209 rfl rfl (Nat.le_of_ble_eq_true rfl) ⟨(Nat.le_of_ble_eq_true rfl), (Nat.le_of_ble_eq_true rfl), (Nat.le_of_ble_eq_true rfl), (Nat.le_of_ble_eq_true rfl)⟩ (fun v h1 hq => ?_)
          obtain ⟨rfl, rfl⟩ := hq
          refine z_aload_n F dX6_runs_212 rfl rfl ?_
          refine z_aload_n F dX6_runs_213 rfl rfl ?_
          refine z_getf F vF_X6_74 dX6_runs_214 mO_at rfl ?_
          refine z_iconst (v := 2) F dX6_runs_217 rfl ?_
          refine z_iald (j := 2) F dX6_runs_218 mA_39 rfl rfl (show 2 < 60 by decide) (Nat.le_of_ble_eq_true rfl) ?_
          refine z_callV F z_nwOK wL_good (c_X6_say (S := sayS (sayS (uAN S 24 (va_up (sAN S 24) r 0)) (113)) (2)) (b := sAN S 39 2) (show sN S 40 + 1 + 1 < 1000 by omega) (by have := R 2; omega)) mO_at rfl vI_X6_say vM_X6_131 vV_X6_say vL_X6_say rfl dX6_runs_219 rfl rfl (Nat.le_of_ble_eq_true rfl) ⟨(Nat.le_of_ble_eq_true rfl), (Nat.le_of_ble_eq_true rfl), (Nat.le_of_ble_eq_true rfl), (Nat.le_of_ble_eq_true rfl)⟩ (fun v h1 hq => ?_)
          obtain ⟨rfl, rfl⟩ := hq
          refine z_aload_n F dX6_runs_222 rfl rfl ?_
          refine z_aload_n F dX6_runs_223 rfl rfl ?_
          refine z_getf F vF_X6_74 dX6_runs_224 mO_at rfl ?_
          refine z_iconst (v := 3) F dX6_runs_227 rfl ?_
          refine z_iald (j := 3) F dX6_runs_228 mA_39 rfl rfl (show 3 < 60 by decide) (Nat.le_of_ble_eq_true rfl) ?_
          refine z_callV F z_nwOK wL_good (c_X6_say (S := sayS (sayS (sayS (uAN S 24 (va_up (sAN S 24) r 0)) (113)) (2)) (sAN S 39 2)) (b := sAN S 39 3) (show sN S 40 + 1 + 1 + 1 < 1000 by omega) (by have := R 3; omega)) mO_at rfl vI_X6_say vM_X6_131 vV_X6_say vL_X6_say rfl dX6_runs_229 rfl rfl (Nat.le_of_ble_eq_true rfl) ⟨(Nat.le_of_ble_eq_true rfl), (Nat.le_of_ble_eq_true rfl), (Nat.le_of_ble_eq_true rfl), (Nat.le_of_ble_eq_true rfl)⟩ (fun v h1 hq => ?_)
          obtain ⟨rfl, rfl⟩ := hq
          refine z_aload_n F dX6_runs_232 rfl rfl ?_
          refine z_aload_n F dX6_runs_233 rfl rfl ?_
          refine z_getf F vF_X6_65 dX6_runs_234 mO_at rfl ?_
          refine z_iload_n F dX6_runs_237 rfl ?_
          refine z_iald (j := r) F dX6_runs_238 mA_24 rfl rfl (show r < 10 by omega) (Nat.le_of_ble_eq_true rfl) ?_
          refine z_callV F z_nwOK wL_good (c_X6_say (S := sayS (sayS (sayS (sayS (uAN S 24 (va_up (sAN S 24) r 0)) (113)) (2)) (sAN S 39 2)) (sAN S 39 3)) (b := sAN (uAN S 24 (va_up (sAN S 24) r 0)) 24 r) (show sN S 40 + 1 + 1 + 1 + 1 < 1000 by omega) (show va_up (sAN S 24) r 0 r < 2 ^ 31 by rw [va_up_self]; decide)) mO_at rfl vI_X6_say vM_X6_131 vV_X6_say vL_X6_say rfl dX6_runs_239 rfl rfl (Nat.le_of_ble_eq_true rfl) ⟨(Nat.le_of_ble_eq_true rfl), (Nat.le_of_ble_eq_true rfl), (Nat.le_of_ble_eq_true rfl), (Nat.le_of_ble_eq_true rfl)⟩ (fun v h1 hq => ?_)
          obtain ⟨rfl, rfl⟩ := hq
          refine z_iconst (v := 0) F dX6_runs_242 rfl ?_
          exact z_iret F hr dX6_runs_243 rfl (Nat.le_of_ble_eq_true rfl) (Nat.le_of_ble_eq_true rfl) (⟨by rw [hs]; try rfl, by rw [hs]; try rfl⟩)
        · exact absurd c169 (not_not_intro (show nI (va_up (sAN S 24) r 0 r) ≤ 0 by rw [va_up_self]; decide))
    · have hd : sAB S 23 r = false := z_b0.mp c145
      have hs : sv49 S = (36, S) := by unfold sv49; rw [if_neg hp1, if_neg (not_not_intro hn), if_neg (not_not_intro hf), hF]; show (if _ then _ else _) = _; rw [if_neg f1, if_pos hd]
      refine z_bipush (v := 36) F dX6_runs_148 rfl ?_
      exact z_iret F hr dX6_runs_150 rfl (Nat.le_of_ble_eq_true rfl) (Nat.le_of_ble_eq_true rfl) (⟨by rw [hs]; try rfl, by rw [hs]; try rfl⟩)
  · have f1 : sAN S 39 1 % 128 = 1 := (nI_eq (b := 1) (by omega) (by decide)).mp c85
    refine z_aload_n F dX6_runs_88 rfl rfl ?_
    refine z_getf F vF_X6_65 dX6_runs_89 mO_at rfl ?_
    refine z_iload_n F dX6_runs_92 rfl ?_
    refine z_iald (j := r) F dX6_runs_93 mA_24 rfl rfl (show r < 10 by omega) (Nat.le_of_ble_eq_true rfl) ?_
    refine z_if_le (tgt := 100) F dX6_runs_94 (by decide) (fun c94 => ?_) (fun c94 => ?_)
    · have hl : ¬ 0 < sAN S 24 r := by have := (nI_leI (a := sAN S 24 r) (b := 0) (by omega) (by decide)).mp c94; omega
      refine z_aload_n F dX6_runs_100 rfl rfl ?_
      refine z_getf F vF_X6_13 dX6_runs_101 mO_at rfl ?_
      refine z_if_ne (tgt := 110) F dX6_runs_104 (by decide) (fun c104 => ?_) (fun c104 => ?_)
      · have hd : ¬ sB S 5 = false := by rw [z_b1 c104]; decide
        have hs : sv49 S = (0, say5 (uAN (uAN (uAB S 23 (va_up (sAB S 23) r true)) 24 (va_up (sAN S 24) r (sAN S 22 r))) 25 (va_up (sAN S 25) r 0)) 1 r) := by unfold sv49; rw [if_neg hp1, if_neg (not_not_intro hn), if_neg (not_not_intro hf), hF]; show (if _ then _ else _) = _; rw [if_pos f1, if_neg hl, if_neg hd]
        rw [f1]
        refine z_aload_n F dX6_runs_110 rfl rfl ?_
        refine z_getf F vF_X6_62 dX6_runs_111 mO_at rfl ?_
        refine z_iload_n F dX6_runs_114 rfl ?_
        refine z_iconst (v := 1) F dX6_runs_115 rfl ?_
        refine z_zast (j := r) F dX6_runs_116 mA_23 rfl rfl (show r < 10 by omega) (Nat.le_of_ble_eq_true rfl) ?_
        refine z_heap _ (ma_23 (v := true)) ?_
        refine z_aload_n F dX6_runs_117 rfl rfl ?_
        refine z_getf F vF_X6_65 dX6_runs_118 mO_at rfl ?_
        refine z_iload_n F dX6_runs_121 rfl ?_
        refine z_aload_n F dX6_runs_122 rfl rfl ?_
        refine z_getf F vF_X6_59 dX6_runs_123 mO_at rfl ?_
        refine z_iload_n F dX6_runs_126 rfl ?_
        refine z_iald (j := r) F dX6_runs_127 mA_22 rfl rfl (show r < 10 by omega) (Nat.le_of_ble_eq_true rfl) ?_
        refine z_iast (j := r) F dX6_runs_128 mA_24 rfl rfl (show r < 10 by omega) (Nat.le_of_ble_eq_true rfl) ?_
        refine z_heap _ (ma_24) ?_
        refine z_aload_n F dX6_runs_129 rfl rfl ?_
        refine z_getf F vF_X6_68 dX6_runs_130 mO_at rfl ?_
        refine z_iload_n F dX6_runs_133 rfl ?_
        refine z_iconst (v := 0) F dX6_runs_134 rfl ?_
        refine z_iast (j := r) F dX6_runs_135 mA_25 rfl rfl (show r < 10 by omega) (Nat.le_of_ble_eq_true rfl) ?_
        refine z_heap _ (ma_25 (v := 0)) ?_
        refine z_goto (tgt := 201) F dX6_runs_136 (by decide) ?_
        refine z_aload_n F dX6_runs_201 rfl rfl ?_
        refine z_bipush (v := 113) F dX6_runs_202 rfl ?_
        refine z_callV F z_nwOK wL_good (c_X6_say (S := uAN (uAN (uAB S 23 (va_up (sAB S 23) r true)) 24 (va_up (sAN S 24) r (sAN S 22 r))) 25 (va_up (sAN S 25) r 0)) (b := 113) (show sN S 40 < 1000 by omega) (by decide)) mO_at rfl vI_X6_say vM_X6_131 vV_X6_say vL_X6_say rfl dX6_runs_204 rfl rfl (Nat.le_of_ble_eq_true rfl) ⟨(Nat.le_of_ble_eq_true rfl), (Nat.le_of_ble_eq_true rfl), (Nat.le_of_ble_eq_true rfl), (Nat.le_of_ble_eq_true rfl)⟩ (fun v h1 hq => ?_)
        obtain ⟨rfl, rfl⟩ := hq
        refine z_aload_n F dX6_runs_207 rfl rfl ?_
        refine z_iload_n F dX6_runs_208 rfl ?_
        refine z_callV F z_nwOK wL_good (c_X6_say (S := sayS (uAN (uAN (uAB S 23 (va_up (sAB S 23) r true)) 24 (va_up (sAN S 24) r (sAN S 22 r))) 25 (va_up (sAN S 25) r 0)) (113)) (b := 1) (show sN S 40 + 1 < 1000 by omega) (by decide)) mO_at rfl vI_X6_say vM_X6_131 vV_X6_say vL_X6_say rfl dX6_runs_209 rfl rfl (Nat.le_of_ble_eq_true rfl) ⟨(Nat.le_of_ble_eq_true rfl), (Nat.le_of_ble_eq_true rfl), (Nat.le_of_ble_eq_true rfl), (Nat.le_of_ble_eq_true rfl)⟩ (fun v h1 hq => ?_)
        obtain ⟨rfl, rfl⟩ := hq
        refine z_aload_n F dX6_runs_212 rfl rfl ?_
        refine z_aload_n F dX6_runs_213 rfl rfl ?_
        refine z_getf F vF_X6_74 dX6_runs_214 mO_at rfl ?_
        refine z_iconst (v := 2) F dX6_runs_217 rfl ?_
        refine z_iald (j := 2) F dX6_runs_218 mA_39 rfl rfl (show 2 < 60 by decide) (Nat.le_of_ble_eq_true rfl) ?_
        refine z_callV F z_nwOK wL_good (c_X6_say (S := sayS (sayS (uAN (uAN (uAB S 23 (va_up (sAB S 23) r true)) 24 (va_up (sAN S 24) r (sAN S 22 r))) 25 (va_up (sAN S 25) r 0)) (113)) (1)) (b := sAN S 39 2) (show sN S 40 + 1 + 1 < 1000 by omega) (by have := R 2; omega)) mO_at rfl vI_X6_say vM_X6_131 vV_X6_say vL_X6_say rfl dX6_runs_219 rfl rfl (Nat.le_of_ble_eq_true rfl) ⟨(Nat.le_of_ble_eq_true rfl), (Nat.le_of_ble_eq_true rfl), (Nat.le_of_ble_eq_true rfl), (Nat.le_of_ble_eq_true rfl)⟩ (fun v h1 hq => ?_)
        obtain ⟨rfl, rfl⟩ := hq
        refine z_aload_n F dX6_runs_222 rfl rfl ?_
        refine z_aload_n F dX6_runs_223 rfl rfl ?_
        refine z_getf F vF_X6_74 dX6_runs_224 mO_at rfl ?_
        refine z_iconst (v := 3) F dX6_runs_227 rfl ?_
        refine z_iald (j := 3) F dX6_runs_228 mA_39 rfl rfl (show 3 < 60 by decide) (Nat.le_of_ble_eq_true rfl) ?_
        refine z_callV F z_nwOK wL_good (c_X6_say (S := sayS (sayS (sayS (uAN (uAN (uAB S 23 (va_up (sAB S 23) r true)) 24 (va_up (sAN S 24) r (sAN S 22 r))) 25 (va_up (sAN S 25) r 0)) (113)) (1)) (sAN S 39 2)) (b := sAN S 39 3) (show sN S 40 + 1 + 1 + 1 < 1000 by omega) (by have := R 3; omega)) mO_at rfl vI_X6_say vM_X6_131 vV_X6_say vL_X6_say rfl dX6_runs_229 rfl rfl (Nat.le_of_ble_eq_true rfl) ⟨(Nat.le_of_ble_eq_true rfl), (Nat.le_of_ble_eq_true rfl), (Nat.le_of_ble_eq_true rfl), (Nat.le_of_ble_eq_true rfl)⟩ (fun v h1 hq => ?_)
        obtain ⟨rfl, rfl⟩ := hq
        refine z_aload_n F dX6_runs_232 rfl rfl ?_
        refine z_aload_n F dX6_runs_233 rfl rfl ?_
        refine z_getf F vF_X6_65 dX6_runs_234 mO_at rfl ?_
        refine z_iload_n F dX6_runs_237 rfl ?_
        refine z_iald (j := r) F dX6_runs_238 mA_24 rfl rfl (show r < 10 by omega) (Nat.le_of_ble_eq_true rfl) ?_
        refine z_callV F z_nwOK wL_good (c_X6_say (S := sayS (sayS (sayS (sayS (uAN (uAN (uAB S 23 (va_up (sAB S 23) r true)) 24 (va_up (sAN S 24) r (sAN S 22 r))) 25 (va_up (sAN S 25) r 0)) (113)) (1)) (sAN S 39 2)) (sAN S 39 3)) (b := sAN (uAN (uAN (uAB S 23 (va_up (sAB S 23) r true)) 24 (va_up (sAN S 24) r (sAN S 22 r))) 25 (va_up (sAN S 25) r 0)) 24 r) (show sN S 40 + 1 + 1 + 1 + 1 < 1000 by omega) (show va_up (sAN S 24) r (sAN S 22 r) r < 2 ^ 31 by rw [va_up_self]; have := U.2.1 r; omega)) mO_at rfl vI_X6_say vM_X6_131 vV_X6_say vL_X6_say rfl dX6_runs_239 rfl rfl (Nat.le_of_ble_eq_true rfl) ⟨(Nat.le_of_ble_eq_true rfl), (Nat.le_of_ble_eq_true rfl), (Nat.le_of_ble_eq_true rfl), (Nat.le_of_ble_eq_true rfl)⟩ (fun v h1 hq => ?_)
        obtain ⟨rfl, rfl⟩ := hq
        refine z_iconst (v := 0) F dX6_runs_242 rfl ?_
        exact z_iret F hr dX6_runs_243 rfl (Nat.le_of_ble_eq_true rfl) (Nat.le_of_ble_eq_true rfl) (⟨by rw [hs]; try rfl, by rw [hs]; try rfl⟩)
      · have hd : sB S 5 = false := z_b0.mp c104
        have hs : sv49 S = (34, S) := by unfold sv49; rw [if_neg hp1, if_neg (not_not_intro hn), if_neg (not_not_intro hf), hF]; show (if _ then _ else _) = _; rw [if_pos f1, if_neg hl, if_pos hd]
        refine z_bipush (v := 34) F dX6_runs_107 rfl ?_
        exact z_iret F hr dX6_runs_109 rfl (Nat.le_of_ble_eq_true rfl) (Nat.le_of_ble_eq_true rfl) (⟨by rw [hs]; try rfl, by rw [hs]; try rfl⟩)
    · have hl : 0 < sAN S 24 r := by have := mt (nI_leI (a := sAN S 24 r) (b := 0) (by omega) (by decide)).mpr c94; omega
      have hs : sv49 S = (36, S) := by unfold sv49; rw [if_neg hp1, if_neg (not_not_intro hn), if_neg (not_not_intro hf), hF]; show (if _ then _ else _) = _; rw [if_pos f1, if_pos hl]
      refine z_bipush (v := 36) F dX6_runs_97 rfl ?_
      exact z_iret F hr dX6_runs_99 rfl (Nat.le_of_ble_eq_true rfl) (Nat.le_of_ble_eq_true rfl) (⟨by rw [hs]; try rfl, by rw [hs]; try rfl⟩)

set_option maxRecDepth 100000 in
set_option maxHeartbeats 1000000 in
theorem t_X6_runs_n {c : Nat → z_E} {S : z_S} {o : Nat → Int64} {d : z_H} (R : rowOK S) (W : idsOK S) (V : numsOK S) (hM : sN S 38 ≤ 60) (hM1 : 1 ≤ sN S 38) (hA : sN S 40 = 0) {x : Int32} (hx : 2 ≤ sN S 38 → x = nI (sAN S 39 1 % 128)) (U : rtsOK S) (f0 : x = nI (sAN S 39 1 % 128)) (hp1 : ¬ sN S 1 = 1) (hn : sN S 38 - 1 = 3) (hf : 1 ≤ sAN S 39 1 % 128 ∧ sAN S 39 1 % 128 ≤ 3) (hF : lst (sAI S 21) (nI (toldN S 2)) (sN S 20) = none) {G : z_G} {X : z_X} (F : z_F vwCl z_ats z_nw wsL_law G RX6 cX6_runs 5 (z_rm 1 0 0) X) (hr : X.2.2.2.2.2.2.2.2.1.sig.returnType = some .int) : z_V vwCl G 5 X (z_end vwCl z_ats z_nw G X 0 0 (fun v h' => v = some (.int (nI (sv49 S).1)) ∧ h' = (HP c (mfun ((sv49 S).2) o) d))) 0 0 76 [(0, .ref 11), (1, .int (nI (sN S 38 - 1))), (2, .int (nI (sAN S 39 1 % 128))), (3, .int (fI none))] [] (HP c (mfun S o) d) := by
  have hs : sv49 S = (49, S) := by unfold sv49; rw [if_neg hp1, if_neg (not_not_intro hn), if_neg (not_not_intro hf), hF]
  refine z_iload_n F dX6_runs_76 rfl ?_
  refine z_if_ge (tgt := 83) F dX6_runs_77 (by decide) (fun c77 => absurd c77 (by decide)) (fun c77 => ?_)
  refine z_bipush (v := 49) F dX6_runs_80 rfl ?_
  exact z_iret F hr dX6_runs_82 rfl (Nat.le_of_ble_eq_true rfl) (Nat.le_of_ble_eq_true rfl) (⟨by rw [hs]; try rfl, by rw [hs]; try rfl⟩)

set_option maxRecDepth 100000 in
set_option maxHeartbeats 1000000 in
theorem l_X6_runs {c : Nat → z_E} {S : z_S} {o : Nat → Int64} {d : z_H} (R : rowOK S) (W : idsOK S) (V : numsOK S) (hM : sN S 38 ≤ 60) (hM1 : 1 ≤ sN S 38) (hA : sN S 40 = 0) {x : Int32} (hx : 2 ≤ sN S 38 → x = nI (sAN S 39 1 % 128)) (U : rtsOK S) (f0 : x = nI (sAN S 39 1 % 128)) (hp1 : ¬ sN S 1 = 1) (hn : sN S 38 - 1 = 3) (hf : 1 ≤ sAN S 39 1 % 128 ∧ sAN S 39 1 % 128 ≤ 3) {G : z_G} {X : z_X} (F : z_F vwCl z_ats z_nw wsL_law G RX6 cX6_runs 5 (z_rm 1 0 0) X) (hr : X.2.2.2.2.2.2.2.2.1.sig.returnType = some .int) :
    ∀ (m i : Nat), i + m = sN S 20 → z_V vwCl G 5 X (z_end vwCl z_ats z_nw G X 0 0 (fun v h' => v = some (.int (nI (sv49 S).1)) ∧ h' = (HP c (mfun ((sv49 S).2) o) d))) 0 0 39 [(0, .ref 11), (1, .int (nI (sN S 38 - 1))), (2, .int (nI (sAN S 39 1 % 128))), (3, .int (fI (lst (sAI S 21) (nI (toldN S 2)) i))), (4, .int (nI i))] [] (HP c (mfun S o) d) := by
  intro m
  induction m with
  | zero =>
    intro i hi
    obtain rfl : i = sN S 20 := by omega
    have u1 := U.1
    refine z_iload F dX6_runs_39 rfl ?_
    refine z_aload_n F dX6_runs_41 rfl rfl ?_
    refine z_getf F vF_X6_109 dX6_runs_42 mO_at rfl ?_
    refine z_icmp_ge (tgt := 76) F dX6_runs_45 (by decide) (fun c45 => ?_) (fun c45 => absurd (nI_le (Nat.le_refl (sN S 20)) (by omega)) c45)
    cases hF : lst (sAI S 21) (nI (toldN S 2)) (sN S 20) with
    | none =>
      exact z_pick [0, 1, 2, 3] rfl (t_X6_runs_n R W V hM hM1 hA hx U f0 hp1 hn hf hF F hr)
    | some r =>
      exact z_pick [0, 1, 2, 3] rfl (t_X6_runs_s R W V hM hM1 hA hx U f0 hp1 hn hf hF F hr)
  | succ m ih =>
    intro i hi
    have u1 := U.1
    refine z_iload F dX6_runs_39 rfl ?_
    refine z_aload_n F dX6_runs_41 rfl rfl ?_
    refine z_getf F vF_X6_109 dX6_runs_42 mO_at rfl ?_
    refine z_icmp_ge (tgt := 76) F dX6_runs_45 (by decide) (fun c45 => absurd c45 (nI_ge (show i < sN S 20 by omega) (by omega))) (fun c45 => ?_)
    refine z_aload_n F dX6_runs_48 rfl rfl ?_
    refine z_getf F vF_X6_56 dX6_runs_49 mO_at rfl ?_
    refine z_iload F dX6_runs_52 rfl ?_
    refine z_iald (j := i) F dX6_runs_54 mA_21 rfl rfl (show i < 10 by omega) (Nat.le_of_ble_eq_true rfl) ?_
    refine z_aload_n F dX6_runs_55 rfl rfl ?_
    refine z_iconst (v := 2) F dX6_runs_56 rfl ?_
    refine z_callV F z_nwOK wL_good (c_X6_told (a := 2) R (by decide)) mO_at rfl vI_X6_told vM_X6_156 vV_X6_told vL_X6_told rfl dX6_runs_57 rfl rfl (Nat.le_of_ble_eq_true rfl) ⟨(Nat.le_of_ble_eq_true rfl), (Nat.le_of_ble_eq_true rfl), (Nat.le_of_ble_eq_true rfl), (Nat.le_of_ble_eq_true rfl)⟩ (fun v h1 hq => ?_)
    obtain ⟨rfl, rfl⟩ := hq
    refine z_icmp_ne (tgt := 68) F dX6_runs_60 (by decide) (fun c60 => ?_) (fun c60 => ?_)
    · have hz : lst (sAI S 21) (nI (toldN S 2)) (i + 1) = lst (sAI S 21) (nI (toldN S 2)) i := if_neg c60
      refine z_iload_n F dX6_runs_68 rfl ?_
      refine z_istore_n F dX6_runs_69 (Nat.le_of_ble_eq_true rfl) ?_
      refine z_iinc (w := 1) F dX6_runs_70 rfl rfl (Nat.le_of_ble_eq_true rfl) ?_
      rw [nI_1]
      refine z_goto (tgt := 39) F dX6_runs_73 (by decide) ?_
      have he := ih (i + 1) (by omega)
      rw [hz] at he
      exact he
    · have hz : lst (sAI S 21) (nI (toldN S 2)) (i + 1) = some i := if_pos c60
      refine z_iload F dX6_runs_63 rfl ?_
      refine z_goto (tgt := 69) F dX6_runs_65 (by decide) ?_
      refine z_istore_n F dX6_runs_69 (Nat.le_of_ble_eq_true rfl) ?_
      refine z_iinc (w := 1) F dX6_runs_70 rfl rfl (Nat.le_of_ble_eq_true rfl) ?_
      rw [nI_1]
      refine z_goto (tgt := 39) F dX6_runs_73 (by decide) ?_
      have he := ih (i + 1) (by omega)
      rw [hz] at he
      exact he

set_option maxRecDepth 100000 in
set_option maxHeartbeats 1000000 in
theorem c_X6_runs {c : Nat → z_E} {S : z_S} {o : Nat → Int64} {d : z_H} (R : rowOK S) (W : idsOK S) (V : numsOK S) (hM : sN S 38 ≤ 60) (hM1 : 1 ≤ sN S 38) (hA : sN S 40 = 0) {x : Int32} (hx : 2 ≤ sN S 38 → x = nI (sAN S 39 1 % 128)) (U : rtsOK S) : z_K yX6_runs cX6_runs 5 (some .int) 1 0 0 [.ref 11, .int (nI (sN S 38 - 1)), .int x] (HP c (mfun S o) d) (fun v h' => v = some (.int (nI (sv49 S).1)) ∧ h' = (HP c (mfun ((sv49 S).2) o) d)) := by
  refine z_met vI_X6_runs (Nat.le_of_ble_eq_true rfl) (fun G X F hr hnm => ?_)
  refine z_aload_n F dX6_runs_0 rfl rfl ?_
  refine z_getf F vF_X6_7 dX6_runs_1 mO_at rfl ?_
  refine z_iconst (v := 1) F dX6_runs_4 rfl ?_
  refine z_icmp_ne (tgt := 11) F dX6_runs_5 (by decide) (fun c5 => ?_) (fun c5 => ?_)
  · have hp1 : ¬ sN S 1 = 1 := fun e => c5 (by rw [e]; rfl)
    refine z_iload_n F dX6_runs_11 rfl ?_
    refine z_iconst (v := 3) F dX6_runs_12 rfl ?_
    refine z_icmp_eq (tgt := 19) F dX6_runs_13 (by decide) (fun c13 => ?_) (fun c13 => ?_)
    · have hn : sN S 38 - 1 = 3 := (nI_eq (b := 3) (by omega) (by decide)).mp c13
      have f0 := hx (by omega)
      subst f0
      refine z_iload_n F dX6_runs_19 rfl ?_
      refine z_i2l F dX6_runs_20 ?_
      refine z_lconst (v := 1) F dX6_runs_21 rfl ?_
      refine z_ldc2 F vK_X6_97 dX6_runs_22 ?_
      refine z_callS F z_nwOK wL_good (c_isIn32 (A := 1) (B := 3) (nI (sAN S 39 1 % 128)) 1 3 rfl rfl) vI_X6_isIn vM_X6_91 vS_X6_isIn rfl dX6_runs_25 rfl rfl (Nat.le_of_ble_eq_true rfl) ⟨(Nat.le_of_ble_eq_true rfl), (Nat.le_of_ble_eq_true rfl), (Nat.le_of_ble_eq_true rfl), (Nat.le_of_ble_eq_true rfl)⟩ (fun v h1 hq => ?_)
      obtain ⟨rfl, rfl⟩ := hq
      refine z_if_ne (tgt := 34) F dX6_runs_28 (by decide) (fun c28 => ?_) (fun c28 => ?_)
      · have hf : 1 ≤ sAN S 39 1 % 128 ∧ sAN S 39 1 % 128 ≤ 3 := by have h9 := z_b1 c28; rw [nI_toInt (by omega)] at h9; unfold inZ at h9; simp at h9; omega
        refine z_iconst (v := (-1)) F dX6_runs_34 rfl ?_
        refine z_istore_n F dX6_runs_35 (Nat.le_of_ble_eq_true rfl) ?_
        refine z_iconst (v := 0) F dX6_runs_36 rfl ?_
        refine z_istore F dX6_runs_37 (Nat.le_of_ble_eq_true rfl) ?_
        exact l_X6_runs R W V hM hM1 hA hx U rfl hp1 hn hf F hr (sN S 20) 0 (by omega)
      · have hf : ¬ (1 ≤ sAN S 39 1 % 128 ∧ sAN S 39 1 % 128 ≤ 3) := by have h9 := z_b0.mp c28; rw [nI_toInt (by omega)] at h9; unfold inZ at h9; simp at h9; omega
        have hs : sv49 S = (18, S) := by unfold sv49; rw [if_neg hp1, if_neg (not_not_intro hn), if_pos hf]
        refine z_bipush (v := 18) F dX6_runs_31 rfl ?_
        exact z_iret F hr dX6_runs_33 rfl (Nat.le_of_ble_eq_true rfl) (Nat.le_of_ble_eq_true rfl) (⟨by rw [hs]; try rfl, by rw [hs]; try rfl⟩)
    · have hn : ¬ sN S 38 - 1 = 3 := fun e => c13 (by rw [e]; rfl)
      have hs : sv49 S = (19, S) := by unfold sv49; rw [if_neg hp1, if_pos hn]
      refine z_bipush (v := 19) F dX6_runs_16 rfl ?_
      exact z_iret F hr dX6_runs_18 rfl (Nat.le_of_ble_eq_true rfl) (Nat.le_of_ble_eq_true rfl) (⟨by rw [hs]; try rfl, by rw [hs]; try rfl⟩)
  · have hp1 : sN S 1 = 1 := (nI_eq (b := 1) (by have := V.1; omega) (by decide)).mp c5
    have hs : sv49 S = (127, S) := if_pos hp1
    refine z_bipush (v := 127) F dX6_runs_8 rfl ?_
    exact z_iret F hr dX6_runs_10 rfl (Nat.le_of_ble_eq_true rfl) (Nat.le_of_ble_eq_true rfl) (⟨by rw [hs]; try rfl, by rw [hs]; try rfl⟩)
end
section
/-! reading several: the answer so far is a, how many and which -/
def sayA (a : Nat × (Nat → Nat)) (b : Nat) : Nat × (Nat → Nat) := (a.1 + 1, va_up a.2 a.1 (b % 256))
def withA (S : z_S) (a : Nat × (Nat → Nat)) : z_S := uN (uAN S 41 a.2) 40 a.1
theorem sayS_withA (S : z_S) (a : Nat × (Nat → Nat)) (b : Nat) : sayS (withA S a) b = withA S (sayA a b) := by
  unfold sayS withA sayA uN uAN
  simp only [sAN, sN]
  rw [show va_up (va_up S.1 40 a.1) 40 (va_up S.1 40 a.1 40 + 1) = va_up S.1 40 (a.1 + 1) from by rw [bx_uu, va_up_self]]
  rw [bx_uu, va_up_self]
  rfl
theorem withA_self (S : z_S) : withA S (sN S 40, sAN S 41) = S := by
  unfold withA
  rw [uAN_same]
  unfold uN
  rw [show va_up S.1 40 (sN S 40, sAN S 41).1 = S.1 from va_same _ _]
/-- of the first j told: is some here, may all that are here be read -/
def scan (S : z_S) : Nat → Bool × Bool
  | 0 => (false, true)
  | j + 1 => match hereF S (toldN S (1 + 2 * j)) with
    | none => scan S j
    | some k => (true, (scan S j).2 && decide (sAN S 12 k ≤ sN S 2))
def octA (S : z_S) (k : Nat) (a : Nat × (Nat → Nat)) : Nat → Nat × (Nat → Nat)
  | 0 => a
  | i + 1 => sayA (octA S k a i) (octS S k i)
def rdA (S : z_S) : Nat → Nat × (Nat → Nat)
  | 0 => sayA (sN S 40, sAN S 41) 98
  | j + 1 => match hereF S (toldN S (1 + 2 * j)) with
    | none => rdA S j
    | some k => octA S k (sayA (sayA (rdA S j) (sAN S 39 (1 + 2 * j))) (sAN S 39 (1 + 2 * j + 1))) (sAN S 10 k)
theorem octA_len (S : z_S) (k : Nat) (a : Nat × (Nat → Nat)) : ∀ i, (octA S k a i).1 = a.1 + i
  | 0 => rfl
  | i + 1 => by show (octA S k a i).1 + 1 = a.1 + (i + 1); rw [octA_len S k a i]; omega
theorem rdA_len {S : z_S} (W : idsOK S) : ∀ j, (rdA S j).1 ≤ sN S 40 + 1 + 10 * j
  | 0 => Nat.le_refl _
  | j + 1 => by
    have ih := rdA_len W j
    unfold rdA
    rcases here_cases S (toldN S (1 + 2 * j)) with ⟨hF, -⟩ | ⟨k, -, hF, -, hk⟩
    · rw [hF]
      show (rdA S j).1 ≤ _
      omega
    · rw [hF]
      show (octA S k _ (sAN S 10 k)).1 ≤ _
      rw [octA_len]
      have := (W.2 k hk).1
      show (rdA S j).1 + 1 + 1 + sAN S 10 k ≤ _
      omega
def sv34 (S : z_S) : Nat × z_S :=
  if (sN S 38 - 1 < 2 ∨ 8 < sN S 38 - 1 ∨ (sN S 38 - 1) % 2 = 1) then (19, S)
  else if (scan S ((sN S 38 - 1) / 2)).1 = false then (49, S)
  else if (scan S ((sN S 38 - 1) / 2)).2 = false then (51, S)
  else (0, withA S (rdA S ((sN S 38 - 1) / 2)))

set_option maxRecDepth 100000 in
set_option maxHeartbeats 1000000 in
theorem l_X6_read3 {c : Nat → z_E} {S : z_S} {o : Nat → Int64} {d : z_H} (R : rowOK S) (W : idsOK S) (V : numsOK S) (hM : sN S 38 ≤ 60) (hn : ¬ (sN S 38 - 1 < 2 ∨ 8 < sN S 38 - 1 ∨ (sN S 38 - 1) % 2 = 1)) {j k : Nat} {a : Nat × (Nat → Nat)} (hk : k < sN S 8) (ha : a.1 < 500) {G : z_G} {X : z_X} {Q' : Option Value → z_H → Prop} (F : z_F vwCl z_ats z_nw wsL_law G RX6 cX6_read 7 (z_rm 1 0 0) X) (kk : z_V vwCl G 7 X (z_end vwCl z_ats z_nw G X 0 0 Q') 0 0 206 [(0, .ref 11), (1, .int (nI (sN S 38 - 1))), (2, .int (z_b true)), (3, .int (z_b true)), (4, .int (nI (1 + 2 * j)))] [] (HP c (mfun (withA S (octA S k a (sAN S 10 k))) o) d)) :
    ∀ (m i : Nat), i + m = sAN S 10 k → z_V vwCl G 7 X (z_end vwCl z_ats z_nw G X 0 0 Q') 0 0 176 [(0, .ref 11), (1, .int (nI (sN S 38 - 1))), (2, .int (z_b true)), (3, .int (z_b true)), (4, .int (nI (1 + 2 * j))), (5, .int (nI k)), (6, .int (nI i))] [] (HP c (mfun (withA S (octA S k a i)) o) d) := by
  intro m
  induction m with
  | zero =>
    intro i hi
    have h40 := W.1
    have hl := (W.2 k hk).1
    obtain rfl : i = sAN S 10 k := by omega
    refine z_iload F dX6_read_176 rfl ?_
    refine z_aload_n F dX6_read_178 rfl rfl ?_
    refine z_getf F vF_X6_24 dX6_read_179 mO_at rfl ?_
    refine z_iload F dX6_read_182 rfl ?_
    refine z_iald (j := k) F dX6_read_184 mA_10 rfl rfl (show k < 40 by omega) (Nat.le_of_ble_eq_true rfl) ?_
    refine z_icmp_ge (tgt := 206) F dX6_read_185 (by decide) (fun c185 => ?_) (fun c185 => absurd (nI_le (Nat.le_refl (sAN S 10 k)) (by omega)) c185)
    exact z_pick [0, 1, 2, 3, 4] rfl kk
  | succ m ih =>
    intro i hi
    have h40 := W.1
    have hl := (W.2 k hk).1
    have hz := octA_len S k a i
    refine z_iload F dX6_read_176 rfl ?_
    refine z_aload_n F dX6_read_178 rfl rfl ?_
    refine z_getf F vF_X6_24 dX6_read_179 mO_at rfl ?_
    refine z_iload F dX6_read_182 rfl ?_
    refine z_iald (j := k) F dX6_read_184 mA_10 rfl rfl (show k < 40 by omega) (Nat.le_of_ble_eq_true rfl) ?_
    refine z_icmp_ge (tgt := 206) F dX6_read_185 (by decide) (fun c185 => absurd c185 (nI_ge (a := i) (b := sAN S 10 k) (by omega) (by omega))) (fun c185 => ?_)
    refine z_aload_n F dX6_read_188 rfl rfl ?_
    refine z_aload_n F dX6_read_189 rfl rfl ?_
    refine z_iload F dX6_read_190 rfl ?_
    refine z_iload F dX6_read_192 rfl ?_
    refine z_callV F z_nwOK wL_good (c_X6_octet (S := withA S (octA S k a i)) W hk (show i < sAN S 10 k by omega)) mO_at rfl vI_X6_octet vM_X6_120 vV_X6_octet vL_X6_octet rfl dX6_read_194 rfl rfl (Nat.le_of_ble_eq_true rfl) ⟨(Nat.le_of_ble_eq_true rfl), (Nat.le_of_ble_eq_true rfl), (Nat.le_of_ble_eq_true rfl), (Nat.le_of_ble_eq_true rfl)⟩ (fun v h1 hq => ?_)
    obtain ⟨rfl, rfl⟩ := hq
    refine z_callV F z_nwOK wL_good (c_X6_say (S := withA S (octA S k a i)) (b := octS S k i) (show (octA S k a i).1 < 1000 by omega) (Nat.lt_of_lt_of_le (show octS S k i < 256 from octV_lt _ _) (by decide))) mO_at rfl vI_X6_say vM_X6_131 vV_X6_say vL_X6_say rfl dX6_read_197 rfl rfl (Nat.le_of_ble_eq_true rfl) ⟨(Nat.le_of_ble_eq_true rfl), (Nat.le_of_ble_eq_true rfl), (Nat.le_of_ble_eq_true rfl), (Nat.le_of_ble_eq_true rfl)⟩ (fun v h1 hq => ?_)
    obtain ⟨rfl, rfl⟩ := hq
    refine z_iinc (w := 1) F dX6_read_200 rfl rfl (Nat.le_of_ble_eq_true rfl) ?_
    rw [nI_1]
    refine z_goto (tgt := 176) F dX6_read_203 (by decide) ?_
    refine z_heap _ (z_hS (sayS_withA S (octA S k a i) (octS S k i))) ?_
    exact ih (i + 1) (by omega)

set_option maxRecDepth 100000 in
set_option maxHeartbeats 1000000 in
theorem l_X6_read2 {c : Nat → z_E} {S : z_S} {o : Nat → Int64} {d : z_H} (R : rowOK S) (W : idsOK S) (V : numsOK S) (hM : sN S 38 ≤ 60) (hn : ¬ (sN S 38 - 1 < 2 ∨ 8 < sN S 38 - 1 ∨ (sN S 38 - 1) % 2 = 1)) (hA : sN S 40 = 0) (hs : sv34 S = (0, withA S (rdA S ((sN S 38 - 1) / 2)))) {G : z_G} {X : z_X} (F : z_F vwCl z_ats z_nw wsL_law G RX6 cX6_read 7 (z_rm 1 0 0) X) (hr : X.2.2.2.2.2.2.2.2.1.sig.returnType = some .int) :
    ∀ (m j : Nat), j + m = (sN S 38 - 1) / 2 → z_V vwCl G 7 X (z_end vwCl z_ats z_nw G X 0 0 (fun v h' => v = some (.int (nI (sv34 S).1)) ∧ h' = (HP c (mfun ((sv34 S).2) o) d))) 0 0 116 [(0, .ref 11), (1, .int (nI (sN S 38 - 1))), (2, .int (z_b true)), (3, .int (z_b true)), (4, .int (nI (1 + 2 * j)))] [] (HP c (mfun (withA S (rdA S j)) o) d) := by
  intro m
  induction m with
  | zero =>
    intro j hi
    have hz : j = (sN S 38 - 1) / 2 := by omega
    subst hz
    refine z_iload F dX6_read_116 rfl ?_
    refine z_aload_n F dX6_read_118 rfl rfl ?_
    refine z_getf F vF_X6_138 dX6_read_119 mO_at rfl ?_
    refine z_icmp_ge (tgt := 212) F dX6_read_122 (by decide) (fun c122 => ?_) (fun c122 => absurd (nI_le (a := sN S 38) (b := 1 + 2 * ((sN S 38 - 1) / 2)) (by omega) (by omega)) c122)
    refine z_iconst (v := 0) F dX6_read_212 rfl ?_
    exact z_iret F hr dX6_read_213 rfl (Nat.le_of_ble_eq_true rfl) (Nat.le_of_ble_eq_true rfl) (⟨by rw [hs]; try rfl, by rw [hs]; try rfl⟩)
  | succ m ih =>
    intro j hi
    refine z_iload F dX6_read_116 rfl ?_
    refine z_aload_n F dX6_read_118 rfl rfl ?_
    refine z_getf F vF_X6_138 dX6_read_119 mO_at rfl ?_
    refine z_icmp_ge (tgt := 212) F dX6_read_122 (by decide) (fun c122 => absurd c122 (nI_ge (a := 1 + 2 * j) (b := sN S 38) (by omega) (by omega))) (fun c122 => ?_)
    refine z_aload_n F dX6_read_125 rfl rfl ?_
    refine z_aload_n F dX6_read_126 rfl rfl ?_
    refine z_iload F dX6_read_127 rfl ?_
    refine z_callV F z_nwOK wL_good (c_X6_told (S := withA S (rdA S j)) (a := 1 + 2 * j) R (by omega)) mO_at rfl vI_X6_told vM_X6_156 vV_X6_told vL_X6_told rfl dX6_read_129 rfl rfl (Nat.le_of_ble_eq_true rfl) ⟨(Nat.le_of_ble_eq_true rfl), (Nat.le_of_ble_eq_true rfl), (Nat.le_of_ble_eq_true rfl), (Nat.le_of_ble_eq_true rfl)⟩ (fun v h1 hq => ?_)
    obtain ⟨rfl, rfl⟩ := hq
    refine z_callV F z_nwOK wL_good (c_X6_find (S := withA S (rdA S j)) W.1) mO_at rfl vI_X6_find vM_X6_99 vV_X6_find vL_X6_find rfl dX6_read_132 rfl rfl (Nat.le_of_ble_eq_true rfl) ⟨(Nat.le_of_ble_eq_true rfl), (Nat.le_of_ble_eq_true rfl), (Nat.le_of_ble_eq_true rfl), (Nat.le_of_ble_eq_true rfl)⟩ (fun v h1 hq => ?_)
    obtain ⟨rfl, rfl⟩ := hq
    refine z_istore F dX6_read_135 (Nat.le_of_ble_eq_true rfl) ?_
    refine z_aload_n F dX6_read_137 rfl rfl ?_
    refine z_iload F dX6_read_138 rfl ?_
    refine z_callV F z_nwOK wL_good (c_X6_isHere (S := withA S (rdA S j)) W V) mO_at rfl vI_X6_isHere vM_X6_180 vV_X6_isHere vL_X6_isHere rfl dX6_read_140 rfl rfl (Nat.le_of_ble_eq_true rfl) ⟨(Nat.le_of_ble_eq_true rfl), (Nat.le_of_ble_eq_true rfl), (Nat.le_of_ble_eq_true rfl), (Nat.le_of_ble_eq_true rfl)⟩ (fun v h1 hq => ?_)
    obtain ⟨rfl, rfl⟩ := hq
    rcases here_cases S (toldN S (1 + 2 * j)) with ⟨hF, h2⟩ | ⟨k, hr', hF, h2, hk⟩
    · have hz : rdA S (j + 1) = rdA S j := by show (match hereF S (toldN S (1 + 2 * j)) with | none => rdA S j | some k => _) = _; rw [hF]
      rw [show hereS (withA S (rdA S j)) (fnd (sAI (withA S (rdA S j)) 9) (nI (toldN (withA S (rdA S j)) (1 + 2 * j))) (sN (withA S (rdA S j)) 8)) = false from h2]
      refine z_if_ne (tgt := 149) F dX6_read_143 (by decide) (fun c143 => absurd rfl c143) (fun c143 => ?_)
      refine z_goto (tgt := 206) F dX6_read_146 (by decide) ?_
      refine z_iinc (w := 2) F dX6_read_206 rfl rfl (Nat.le_of_ble_eq_true rfl) ?_
      rw [show nI (1 + 2 * j) + 2 = nI (1 + 2 * (j + 1)) from nI_add (1 + 2 * j) 2]
      refine z_goto (tgt := 116) F dX6_read_209 (by decide) ?_
      refine z_pick [0, 1, 2, 3, 4] rfl ?_
      have he := ih (j + 1) (by omega)
      rw [hz] at he
      exact he
    · have h40 := W.1
      have hln := rdA_len W j
      have hz : rdA S (j + 1) = octA S k (sayA (sayA (rdA S j) (sAN S 39 (1 + 2 * j))) (sAN S 39 (1 + 2 * j + 1))) (sAN S 10 k) := by show (match hereF S (toldN S (1 + 2 * j)) with | none => rdA S j | some k => _) = _; rw [hF]
      rw [show fnd (sAI (withA S (rdA S j)) 9) (nI (toldN (withA S (rdA S j)) (1 + 2 * j))) (sN (withA S (rdA S j)) 8) = some k from hr', show hereS (withA S (rdA S j)) (some k) = true from h2]
      refine z_if_ne (tgt := 149) F dX6_read_143 (by decide) (fun c143 => ?_) (fun c143 => absurd c143 (by decide))
      refine z_aload_n F dX6_read_149 rfl rfl ?_
      refine z_aload_n F dX6_read_150 rfl rfl ?_
      refine z_getf F vF_X6_74 dX6_read_151 mO_at rfl ?_
      refine z_iload F dX6_read_154 rfl ?_
      refine z_iald (j := 1 + 2 * j) F dX6_read_156 mA_39 rfl rfl (show 1 + 2 * j < 60 by omega) (Nat.le_of_ble_eq_true rfl) ?_
      refine z_callV F z_nwOK wL_good (c_X6_say (S := withA S (rdA S j)) (b := sAN S 39 (1 + 2 * j)) (show (rdA S j).1 < 1000 by omega) (by have := R (1 + 2 * j); omega)) mO_at rfl vI_X6_say vM_X6_131 vV_X6_say vL_X6_say rfl dX6_read_157 rfl rfl (Nat.le_of_ble_eq_true rfl) ⟨(Nat.le_of_ble_eq_true rfl), (Nat.le_of_ble_eq_true rfl), (Nat.le_of_ble_eq_true rfl), (Nat.le_of_ble_eq_true rfl)⟩ (fun v h1 hq => ?_)
      obtain ⟨rfl, rfl⟩ := hq
      refine z_heap _ (z_hS (sayS_withA S (rdA S j) (sAN S 39 (1 + 2 * j)))) ?_
      refine z_aload_n F dX6_read_160 rfl rfl ?_
      refine z_aload_n F dX6_read_161 rfl rfl ?_
      refine z_getf F vF_X6_74 dX6_read_162 mO_at rfl ?_
      refine z_iload F dX6_read_165 rfl ?_
      refine z_iconst (v := 1) F dX6_read_167 rfl ?_
      refine z_iadd F dX6_read_168 ?_
      rw [nI_1]
      refine z_iald (j := 1 + 2 * j + 1) F dX6_read_169 mA_39 rfl rfl (show 1 + 2 * j + 1 < 60 by omega) (Nat.le_of_ble_eq_true rfl) ?_
      refine z_callV F z_nwOK wL_good (c_X6_say (S := withA S (sayA (rdA S j) (sAN S 39 (1 + 2 * j)))) (b := sAN S 39 (1 + 2 * j + 1)) (show (rdA S j).1 + 1 < 1000 by omega) (by have := R (1 + 2 * j + 1); omega)) mO_at rfl vI_X6_say vM_X6_131 vV_X6_say vL_X6_say rfl dX6_read_170 rfl rfl (Nat.le_of_ble_eq_true rfl) ⟨(Nat.le_of_ble_eq_true rfl), (Nat.le_of_ble_eq_true rfl), (Nat.le_of_ble_eq_true rfl), (Nat.le_of_ble_eq_true rfl)⟩ (fun v h1 hq => ?_)
      obtain ⟨rfl, rfl⟩ := hq
      refine z_heap _ (z_hS (sayS_withA S _ (sAN S 39 (1 + 2 * j + 1)))) ?_
      refine z_iconst (v := 0) F dX6_read_173 rfl ?_
      refine z_istore F dX6_read_174 (Nat.le_of_ble_eq_true rfl) ?_
      refine l_X6_read3 R W V hM hn hk (a := sayA (sayA (rdA S j) (sAN S 39 (1 + 2 * j))) (sAN S 39 (1 + 2 * j + 1))) (show (rdA S j).1 + 1 + 1 < 500 by omega) F ?_ (sAN S 10 k) 0 (by omega)
      rw [← hz]
      refine z_iinc (w := 2) F dX6_read_206 rfl rfl (Nat.le_of_ble_eq_true rfl) ?_
      rw [show nI (1 + 2 * j) + 2 = nI (1 + 2 * (j + 1)) from nI_add (1 + 2 * j) 2]
      refine z_goto (tgt := 116) F dX6_read_209 (by decide) ?_
      exact ih (j + 1) (by omega)

set_option maxRecDepth 100000 in
set_option maxHeartbeats 1000000 in
theorem l_X6_read1 {c : Nat → z_E} {S : z_S} {o : Nat → Int64} {d : z_H} (R : rowOK S) (W : idsOK S) (V : numsOK S) (hM : sN S 38 ≤ 60) (hn : ¬ (sN S 38 - 1 < 2 ∨ 8 < sN S 38 - 1 ∨ (sN S 38 - 1) % 2 = 1)) (hA : sN S 40 = 0) {G : z_G} {X : z_X} (F : z_F vwCl z_ats z_nw wsL_law G RX6 cX6_read 7 (z_rm 1 0 0) X) (hr : X.2.2.2.2.2.2.2.2.1.sig.returnType = some .int) :
    ∀ (m j : Nat), j + m = (sN S 38 - 1) / 2 → z_V vwCl G 7 X (z_end vwCl z_ats z_nw G X 0 0 (fun v h' => v = some (.int (nI (sv34 S).1)) ∧ h' = (HP c (mfun ((sv34 S).2) o) d))) 0 0 28 [(0, .ref 11), (1, .int (nI (sN S 38 - 1))), (2, .int (z_b (scan S j).1)), (3, .int (z_b (scan S j).2)), (4, .int (nI (1 + 2 * j)))] [] (HP c (mfun S o) d) := by
  intro m
  induction m with
  | zero =>
    intro j hi
    have hz : j = (sN S 38 - 1) / 2 := by omega
    subst hz
    refine z_iload F dX6_read_28 rfl ?_
    refine z_aload_n F dX6_read_30 rfl rfl ?_
    refine z_getf F vF_X6_138 dX6_read_31 mO_at rfl ?_
    refine z_icmp_ge (tgt := 93) F dX6_read_34 (by decide) (fun c34 => ?_) (fun c34 => absurd (nI_le (a := sN S 38) (b := 1 + 2 * ((sN S 38 - 1) / 2)) (by omega) (by omega)) c34)
    refine z_iload_n F dX6_read_93 rfl ?_
    refine z_if_ne (tgt := 100) F dX6_read_94 (by decide) (fun c94 => ?_) (fun c94 => ?_)
    · have e1 := z_b1 c94
      refine z_iload_n F dX6_read_100 rfl ?_
      refine z_if_ne (tgt := 107) F dX6_read_101 (by decide) (fun c101 => ?_) (fun c101 => ?_)
      · have e2 := z_b1 c101
        have hs : sv34 S = (0, withA S (rdA S ((sN S 38 - 1) / 2))) := by unfold sv34; rw [if_neg hn, if_neg (by rw [e1]; decide), if_neg (by rw [e2]; decide)]
        rw [e1, e2]
        refine z_aload_n F dX6_read_107 rfl rfl ?_
        refine z_bipush (v := 98) F dX6_read_108 rfl ?_
        refine z_callV F z_nwOK wL_good (c_X6_say (b := 98) (show sN S 40 < 1000 by omega) (by decide)) mO_at rfl vI_X6_say vM_X6_131 vV_X6_say vL_X6_say rfl dX6_read_110 rfl rfl (Nat.le_of_ble_eq_true rfl) ⟨(Nat.le_of_ble_eq_true rfl), (Nat.le_of_ble_eq_true rfl), (Nat.le_of_ble_eq_true rfl), (Nat.le_of_ble_eq_true rfl)⟩ (fun v h1 hq => ?_)
        obtain ⟨rfl, rfl⟩ := hq
        refine z_iconst (v := 1) F dX6_read_113 rfl ?_
        refine z_istore F dX6_read_114 (Nat.le_of_ble_eq_true rfl) ?_
        exact l_X6_read2 R W V hM hn hA hs F hr ((sN S 38 - 1) / 2) 0 (by omega)
      · have hs : sv34 S = (51, S) := by unfold sv34; rw [if_neg hn, if_neg (by rw [e1]; decide), if_pos (z_b0.mp c101)]
        refine z_bipush (v := 51) F dX6_read_104 rfl ?_
        exact z_iret F hr dX6_read_106 rfl (Nat.le_of_ble_eq_true rfl) (Nat.le_of_ble_eq_true rfl) (⟨by rw [hs]; try rfl, by rw [hs]; try rfl⟩)
    · have hs : sv34 S = (49, S) := by unfold sv34; rw [if_neg hn, if_pos (z_b0.mp c94)]
      refine z_bipush (v := 49) F dX6_read_97 rfl ?_
      exact z_iret F hr dX6_read_99 rfl (Nat.le_of_ble_eq_true rfl) (Nat.le_of_ble_eq_true rfl) (⟨by rw [hs]; try rfl, by rw [hs]; try rfl⟩)
  | succ m ih =>
    intro j hi
    refine z_iload F dX6_read_28 rfl ?_
    refine z_aload_n F dX6_read_30 rfl rfl ?_
    refine z_getf F vF_X6_138 dX6_read_31 mO_at rfl ?_
    refine z_icmp_ge (tgt := 93) F dX6_read_34 (by decide) (fun c34 => absurd c34 (nI_ge (a := 1 + 2 * j) (b := sN S 38) (by omega) (by omega))) (fun c34 => ?_)
    refine z_aload_n F dX6_read_37 rfl rfl ?_
    refine z_aload_n F dX6_read_38 rfl rfl ?_
    refine z_iload F dX6_read_39 rfl ?_
    refine z_callV F z_nwOK wL_good (c_X6_told (a := 1 + 2 * j) R (by omega)) mO_at rfl vI_X6_told vM_X6_156 vV_X6_told vL_X6_told rfl dX6_read_41 rfl rfl (Nat.le_of_ble_eq_true rfl) ⟨(Nat.le_of_ble_eq_true rfl), (Nat.le_of_ble_eq_true rfl), (Nat.le_of_ble_eq_true rfl), (Nat.le_of_ble_eq_true rfl)⟩ (fun v h1 hq => ?_)
    obtain ⟨rfl, rfl⟩ := hq
    refine z_callV F z_nwOK wL_good (c_X6_find W.1) mO_at rfl vI_X6_find vM_X6_99 vV_X6_find vL_X6_find rfl dX6_read_44 rfl rfl (Nat.le_of_ble_eq_true rfl) ⟨(Nat.le_of_ble_eq_true rfl), (Nat.le_of_ble_eq_true rfl), (Nat.le_of_ble_eq_true rfl), (Nat.le_of_ble_eq_true rfl)⟩ (fun v h1 hq => ?_)
    obtain ⟨rfl, rfl⟩ := hq
    refine z_istore F dX6_read_47 (Nat.le_of_ble_eq_true rfl) ?_
    refine z_aload_n F dX6_read_49 rfl rfl ?_
    refine z_iload F dX6_read_50 rfl ?_
    refine z_callV F z_nwOK wL_good (c_X6_isHere W V) mO_at rfl vI_X6_isHere vM_X6_180 vV_X6_isHere vL_X6_isHere rfl dX6_read_52 rfl rfl (Nat.le_of_ble_eq_true rfl) ⟨(Nat.le_of_ble_eq_true rfl), (Nat.le_of_ble_eq_true rfl), (Nat.le_of_ble_eq_true rfl), (Nat.le_of_ble_eq_true rfl)⟩ (fun v h1 hq => ?_)
    obtain ⟨rfl, rfl⟩ := hq
    rcases here_cases S (toldN S (1 + 2 * j)) with ⟨hF, h2⟩ | ⟨k, hr', hF, h2, hk⟩
    · have hz : scan S (j + 1) = scan S j := by show (match hereF S (toldN S (1 + 2 * j)) with | none => scan S j | some k => _) = _; rw [hF]
      rw [h2]
      refine z_if_ne (tgt := 61) F dX6_read_55 (by decide) (fun c55 => absurd rfl c55) (fun c55 => ?_)
      refine z_goto (tgt := 87) F dX6_read_58 (by decide) ?_
      refine z_iinc (w := 2) F dX6_read_87 rfl rfl (Nat.le_of_ble_eq_true rfl) ?_
      rw [show nI (1 + 2 * j) + 2 = nI (1 + 2 * (j + 1)) from nI_add (1 + 2 * j) 2]
      refine z_goto (tgt := 28) F dX6_read_90 (by decide) ?_
      refine z_pick [0, 1, 2, 3, 4] rfl ?_
      have he := ih (j + 1) (by omega)
      rw [hz] at he
      exact he
    · have h40 := W.1
      have hz : scan S (j + 1) = (true, (scan S j).2 && decide (sAN S 12 k ≤ sN S 2)) := by show (match hereF S (toldN S (1 + 2 * j)) with | none => scan S j | some k => _) = _; rw [hF]
      rw [hr', h2]
      refine z_if_ne (tgt := 61) F dX6_read_55 (by decide) (fun c55 => ?_) (fun c55 => absurd c55 (by decide))
      refine z_iconst (v := 1) F dX6_read_61 rfl ?_
      refine z_istore_n F dX6_read_62 (Nat.le_of_ble_eq_true rfl) ?_
      refine z_iload_n F dX6_read_63 rfl ?_
      refine z_if_eq (tgt := 85) F dX6_read_64 (by decide) (fun c64 => ?_) (fun c64 => ?_)
      · have hy : ((scan S j).2 && decide (sAN S 12 k ≤ sN S 2)) = false := by rw [z_b0.mp c64]; rfl
        refine z_iconst (v := 0) F dX6_read_85 rfl ?_
        refine z_istore_n F dX6_read_86 (Nat.le_of_ble_eq_true rfl) ?_
        refine z_iinc (w := 2) F dX6_read_87 rfl rfl (Nat.le_of_ble_eq_true rfl) ?_
        rw [show nI (1 + 2 * j) + 2 = nI (1 + 2 * (j + 1)) from nI_add (1 + 2 * j) 2]
        refine z_goto (tgt := 28) F dX6_read_90 (by decide) ?_
        refine z_pick [0, 1, 2, 3, 4] rfl ?_
        have he := ih (j + 1) (by omega)
        rw [hz, hy] at he
        exact he
      · have e2 := z_b1 c64
        refine z_aload_n F dX6_read_67 rfl rfl ?_
        refine z_getf F vF_X6_30 dX6_read_68 mO_at rfl ?_
        refine z_iload F dX6_read_71 rfl ?_
        refine z_iald (j := k) F dX6_read_73 mA_12 rfl rfl (show k < 40 by omega) (Nat.le_of_ble_eq_true rfl) ?_
        refine z_aload_n F dX6_read_74 rfl rfl ?_
        refine z_getf F vF_X6_112 dX6_read_75 mO_at rfl ?_
        refine z_icmp_gt (tgt := 85) F dX6_read_78 (by decide) (fun c78 => ?_) (fun c78 => ?_)
        · have hy : ((scan S j).2 && decide (sAN S 12 k ≤ sN S 2)) = false := by rw [decide_eq_false (by have := (nI_ltI (a := sN S 2) (b := sAN S 12 k) (by have := V.2.1; omega) (by have := V.2.2.2.2 k; omega)).mp c78; omega)]; simp
          refine z_iconst (v := 0) F dX6_read_85 rfl ?_
          refine z_istore_n F dX6_read_86 (Nat.le_of_ble_eq_true rfl) ?_
          refine z_iinc (w := 2) F dX6_read_87 rfl rfl (Nat.le_of_ble_eq_true rfl) ?_
          rw [show nI (1 + 2 * j) + 2 = nI (1 + 2 * (j + 1)) from nI_add (1 + 2 * j) 2]
          refine z_goto (tgt := 28) F dX6_read_90 (by decide) ?_
          refine z_pick [0, 1, 2, 3, 4] rfl ?_
          have he := ih (j + 1) (by omega)
          rw [hz, hy] at he
          exact he
        · have hy : ((scan S j).2 && decide (sAN S 12 k ≤ sN S 2)) = true := by rw [e2, decide_eq_true (by have := mt (nI_ltI (a := sN S 2) (b := sAN S 12 k) (by have := V.2.1; omega) (by have := V.2.2.2.2 k; omega)).mpr c78; omega)]; rfl
          refine z_iconst (v := 1) F dX6_read_81 rfl ?_
          refine z_goto (tgt := 86) F dX6_read_82 (by decide) ?_
          refine z_istore_n F dX6_read_86 (Nat.le_of_ble_eq_true rfl) ?_
          refine z_iinc (w := 2) F dX6_read_87 rfl rfl (Nat.le_of_ble_eq_true rfl) ?_
          rw [show nI (1 + 2 * j) + 2 = nI (1 + 2 * (j + 1)) from nI_add (1 + 2 * j) 2]
          refine z_goto (tgt := 28) F dX6_read_90 (by decide) ?_
          refine z_pick [0, 1, 2, 3, 4] rfl ?_
          have he := ih (j + 1) (by omega)
          rw [hz, hy] at he
          exact he

set_option maxRecDepth 100000 in
set_option maxHeartbeats 1000000 in
theorem c_X6_read {c : Nat → z_E} {S : z_S} {o : Nat → Int64} {d : z_H} (R : rowOK S) (W : idsOK S) (V : numsOK S) (hM : sN S 38 ≤ 60) (hM1 : 1 ≤ sN S 38) (hA : sN S 40 = 0) : z_K yX6_read cX6_read 7 (some .int) 1 0 0 [.ref 11, .int (nI (sN S 38 - 1))] (HP c (mfun S o) d) (fun v h' => v = some (.int (nI (sv34 S).1)) ∧ h' = (HP c (mfun ((sv34 S).2) o) d)) := by
  refine z_met vI_X6_read (Nat.le_of_ble_eq_true rfl) (fun G X F hr hnm => ?_)
  refine z_iload_n F dX6_read_0 rfl ?_
  refine z_iconst (v := 2) F dX6_read_1 rfl ?_
  refine z_icmp_lt (tgt := 18) F dX6_read_2 (by decide) (fun c2 => ?_) (fun c2 => ?_)
  · have hn : sN S 38 - 1 < 2 ∨ 8 < sN S 38 - 1 ∨ (sN S 38 - 1) % 2 = 1 := Or.inl ((nI_ltI (b := 2) (by omega) (by decide)).mp c2)
    have hs : sv34 S = (19, S) := if_pos hn
    refine z_bipush (v := 19) F dX6_read_18 rfl ?_
    exact z_iret F hr dX6_read_20 rfl (Nat.le_of_ble_eq_true rfl) (Nat.le_of_ble_eq_true rfl) (⟨by rw [hs]; try rfl, by rw [hs]; try rfl⟩)
  · have n1 := mt (nI_ltI (a := sN S 38 - 1) (b := 2) (by omega) (by decide)).mpr c2
    refine z_iload_n F dX6_read_5 rfl ?_
    refine z_bipush (v := 8) F dX6_read_6 rfl ?_
    refine z_icmp_gt (tgt := 18) F dX6_read_8 (by decide) (fun c8 => ?_) (fun c8 => ?_)
    · have hn : sN S 38 - 1 < 2 ∨ 8 < sN S 38 - 1 ∨ (sN S 38 - 1) % 2 = 1 := Or.inr (Or.inl ((nI_ltI (a := 8) (by decide) (by omega)).mp c8))
      have hs : sv34 S = (19, S) := if_pos hn
      refine z_bipush (v := 19) F dX6_read_18 rfl ?_
      exact z_iret F hr dX6_read_20 rfl (Nat.le_of_ble_eq_true rfl) (Nat.le_of_ble_eq_true rfl) (⟨by rw [hs]; try rfl, by rw [hs]; try rfl⟩)
    · have n2 := mt (nI_ltI (a := 8) (b := sN S 38 - 1) (by decide) (by omega)).mpr c8
      refine z_iload_n F dX6_read_11 rfl ?_
      refine z_iconst (v := 2) F dX6_read_12 rfl ?_
      refine z_irem F dX6_read_13 (by decide) ?_
      refine z_iconst (v := 1) F dX6_read_14 rfl ?_
      rw [show (2 : Int32) = nI 2 from rfl, pk_rem (a := sN S 38 - 1) (d := 2) (by omega) (by decide) (by decide)]
      refine z_icmp_ne (tgt := 21) F dX6_read_15 (by decide) (fun c15 => ?_) (fun c15 => ?_)
      · have n3 : ¬ (sN S 38 - 1) % 2 = 1 := fun e => c15 (by rw [e]; rfl)
        have hn : ¬ (sN S 38 - 1 < 2 ∨ 8 < sN S 38 - 1 ∨ (sN S 38 - 1) % 2 = 1) := by omega
        refine z_iconst (v := 0) F dX6_read_21 rfl ?_
        refine z_istore_n F dX6_read_22 (Nat.le_of_ble_eq_true rfl) ?_
        refine z_iconst (v := 1) F dX6_read_23 rfl ?_
        refine z_istore_n F dX6_read_24 (Nat.le_of_ble_eq_true rfl) ?_
        refine z_iconst (v := 1) F dX6_read_25 rfl ?_
        refine z_istore F dX6_read_26 (Nat.le_of_ble_eq_true rfl) ?_
        exact l_X6_read1 R W V hM hn hA F hr ((sN S 38 - 1) / 2) 0 (by omega)
      · have hn : sN S 38 - 1 < 2 ∨ 8 < sN S 38 - 1 ∨ (sN S 38 - 1) % 2 = 1 := Or.inr (Or.inr ((nI_eq (b := 1) (by omega) (by decide)).mp c15))
        have hs : sv34 S = (19, S) := if_pos hn
        refine z_bipush (v := 19) F dX6_read_18 rfl ?_
        exact z_iret F hr dX6_read_20 rfl (Nat.le_of_ble_eq_true rfl) (Nat.le_of_ble_eq_true rfl) (⟨by rw [hs]; try rfl, by rw [hs]; try rfl⟩)
end
