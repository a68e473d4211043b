section
-- ===== PART A: goes FIRST, ahead of the names: the tables' words, and 'selects' of the private methods out of them =====
/-- a private method of a class that the tables say can be made, by its rows of tables_1 -/
def lw_okq (q : MethodName × Nat) : Prop := (q.1.cls ≠ "java/lang/invoke/MethodHandle" ∧ q.1.cls ≠ "java/lang/invoke/VarHandle") ∧ Cond.instantiable q.1.cls q.2 ∈ tables_1 ∧ Cond.privateMethod q.1 ∈ tables_1 ∧ Cond.instanceMethod q.1 ∈ tables_1
theorem lw_p0 : lw_okq (⟨"ServiceRows2", "findIdentifier", "(I)LServiceRows2$Identifier;"⟩, 16) := ⟨⟨by decide +kernel, by decide +kernel⟩, List.mem_of_getElem? (i := 15) (by decide +kernel), List.mem_of_getElem? (i := 144) (by decide +kernel), List.mem_of_getElem? (i := 145) (by decide +kernel)⟩
theorem lw_p1 : lw_okq (⟨"ServiceRows2", "hasRoomForIdentifier", "()Z"⟩, 16) := ⟨⟨by decide +kernel, by decide +kernel⟩, List.mem_of_getElem? (i := 15) (by decide +kernel), List.mem_of_getElem? (i := 148) (by decide +kernel), List.mem_of_getElem? (i := 149) (by decide +kernel)⟩
theorem lw_p2 : lw_okq (⟨"ServiceRows2", "addIdentifier", "(LServiceRows2$Identifier;)V"⟩, 16) := ⟨⟨by decide +kernel, by decide +kernel⟩, List.mem_of_getElem? (i := 15) (by decide +kernel), List.mem_of_getElem? (i := 200) (by decide +kernel), List.mem_of_getElem? (i := 201) (by decide +kernel)⟩
theorem lw_p3 : lw_okq (⟨"ServiceRows2", "findRoutine", "(I)LServiceRows2$Routine;"⟩, 16) := ⟨⟨by decide +kernel, by decide +kernel⟩, List.mem_of_getElem? (i := 15) (by decide +kernel), List.mem_of_getElem? (i := 216) (by decide +kernel), List.mem_of_getElem? (i := 217) (by decide +kernel)⟩
theorem lw_p4 : lw_okq (⟨"ServiceRows2", "conclude", "(LServiceRows2$Question;)V"⟩, 16) := ⟨⟨by decide +kernel, by decide +kernel⟩, List.mem_of_getElem? (i := 15) (by decide +kernel), List.mem_of_getElem? (i := 276) (by decide +kernel), List.mem_of_getElem? (i := 277) (by decide +kernel)⟩
theorem lw_p5 : lw_okq (⟨"ServiceRows2", "serve", "(LServiceRows2$Question;)I"⟩, 16) := ⟨⟨by decide +kernel, by decide +kernel⟩, List.mem_of_getElem? (i := 15) (by decide +kernel), List.mem_of_getElem? (i := 284) (by decide +kernel), List.mem_of_getElem? (i := 285) (by decide +kernel)⟩
theorem lw_p6 : lw_okq (⟨"ServiceRows2", "changeSession", "(LServiceRows2$Question;)I"⟩, 16) := ⟨⟨by decide +kernel, by decide +kernel⟩, List.mem_of_getElem? (i := 15) (by decide +kernel), List.mem_of_getElem? (i := 296) (by decide +kernel), List.mem_of_getElem? (i := 297) (by decide +kernel)⟩
theorem lw_p7 : lw_okq (⟨"ServiceRows2", "endSession", "(I)V"⟩, 16) := ⟨⟨by decide +kernel, by decide +kernel⟩, List.mem_of_getElem? (i := 15) (by decide +kernel), List.mem_of_getElem? (i := 312) (by decide +kernel), List.mem_of_getElem? (i := 313) (by decide +kernel)⟩
theorem lw_p8 : lw_okq (⟨"ServiceRows2", "beginReply", "(LServiceRows2$Question;)V"⟩, 16) := ⟨⟨by decide +kernel, by decide +kernel⟩, List.mem_of_getElem? (i := 15) (by decide +kernel), List.mem_of_getElem? (i := 324) (by decide +kernel), List.mem_of_getElem? (i := 325) (by decide +kernel)⟩
theorem lw_p9 : lw_okq (⟨"ServiceRows2", "reset", "(LServiceRows2$Question;)I"⟩, 16) := ⟨⟨by decide +kernel, by decide +kernel⟩, List.mem_of_getElem? (i := 15) (by decide +kernel), List.mem_of_getElem? (i := 332) (by decide +kernel), List.mem_of_getElem? (i := 333) (by decide +kernel)⟩
theorem lw_p10 : lw_okq (⟨"ServiceRows2", "forgetRoutines", "()V"⟩, 16) := ⟨⟨by decide +kernel, by decide +kernel⟩, List.mem_of_getElem? (i := 15) (by decide +kernel), List.mem_of_getElem? (i := 336) (by decide +kernel), List.mem_of_getElem? (i := 337) (by decide +kernel)⟩
theorem lw_p11 : lw_okq (⟨"ServiceRows2", "clearOwnValues", "()V"⟩, 16) := ⟨⟨by decide +kernel, by decide +kernel⟩, List.mem_of_getElem? (i := 15) (by decide +kernel), List.mem_of_getElem? (i := 344) (by decide +kernel), List.mem_of_getElem? (i := 345) (by decide +kernel)⟩
theorem lw_p12 : lw_okq (⟨"ServiceRows2", "read", "(LServiceRows2$Question;)I"⟩, 16) := ⟨⟨by decide +kernel, by decide +kernel⟩, List.mem_of_getElem? (i := 15) (by decide +kernel), List.mem_of_getElem? (i := 348) (by decide +kernel), List.mem_of_getElem? (i := 349) (by decide +kernel)⟩
theorem lw_p13 : lw_okq (⟨"ServiceRows2", "findHere", "(I)LServiceRows2$Identifier;"⟩, 16) := ⟨⟨by decide +kernel, by decide +kernel⟩, List.mem_of_getElem? (i := 15) (by decide +kernel), List.mem_of_getElem? (i := 356) (by decide +kernel), List.mem_of_getElem? (i := 357) (by decide +kernel)⟩
theorem lw_p14 : lw_okq (⟨"ServiceRows2", "replyOctetsOf", "(LServiceRows2$Identifier;)V"⟩, 16) := ⟨⟨by decide +kernel, by decide +kernel⟩, List.mem_of_getElem? (i := 15) (by decide +kernel), List.mem_of_getElem? (i := 360) (by decide +kernel), List.mem_of_getElem? (i := 361) (by decide +kernel)⟩
theorem lw_p15 : lw_okq (⟨"ServiceRows2$Identifier", "ordinaryOctetAt", "(I)I"⟩, 11) := ⟨⟨by decide +kernel, by decide +kernel⟩, List.mem_of_getElem? (i := 151) (by decide +kernel), List.mem_of_getElem? (i := 373) (by decide +kernel), List.mem_of_getElem? (i := 374) (by decide +kernel)⟩
def lw_privs_1 : List (MethodName × Nat) := [(⟨"ServiceRows2", "findIdentifier", "(I)LServiceRows2$Identifier;"⟩, 16), (⟨"ServiceRows2", "hasRoomForIdentifier", "()Z"⟩, 16), (⟨"ServiceRows2", "addIdentifier", "(LServiceRows2$Identifier;)V"⟩, 16), (⟨"ServiceRows2", "findRoutine", "(I)LServiceRows2$Routine;"⟩, 16), (⟨"ServiceRows2", "conclude", "(LServiceRows2$Question;)V"⟩, 16), (⟨"ServiceRows2", "serve", "(LServiceRows2$Question;)I"⟩, 16), (⟨"ServiceRows2", "changeSession", "(LServiceRows2$Question;)I"⟩, 16), (⟨"ServiceRows2", "endSession", "(I)V"⟩, 16), (⟨"ServiceRows2", "beginReply", "(LServiceRows2$Question;)V"⟩, 16), (⟨"ServiceRows2", "reset", "(LServiceRows2$Question;)I"⟩, 16), (⟨"ServiceRows2", "forgetRoutines", "()V"⟩, 16), (⟨"ServiceRows2", "clearOwnValues", "()V"⟩, 16), (⟨"ServiceRows2", "read", "(LServiceRows2$Question;)I"⟩, 16), (⟨"ServiceRows2", "findHere", "(I)LServiceRows2$Identifier;"⟩, 16), (⟨"ServiceRows2", "replyOctetsOf", "(LServiceRows2$Identifier;)V"⟩, 16), (⟨"ServiceRows2$Identifier", "ordinaryOctetAt", "(I)I"⟩, 11)]
theorem lw_r1 : ∀ q ∈ lw_privs_1, lw_okq q := List.forall_mem_cons.mpr ⟨lw_p0, List.forall_mem_cons.mpr ⟨lw_p1, List.forall_mem_cons.mpr ⟨lw_p2, List.forall_mem_cons.mpr ⟨lw_p3, List.forall_mem_cons.mpr ⟨lw_p4, List.forall_mem_cons.mpr ⟨lw_p5, List.forall_mem_cons.mpr ⟨lw_p6, List.forall_mem_cons.mpr ⟨lw_p7, List.forall_mem_cons.mpr ⟨lw_p8, List.forall_mem_cons.mpr ⟨lw_p9, List.forall_mem_cons.mpr ⟨lw_p10, List.forall_mem_cons.mpr ⟨lw_p11, List.forall_mem_cons.mpr ⟨lw_p12, List.forall_mem_cons.mpr ⟨lw_p13, List.forall_mem_cons.mpr ⟨lw_p14, List.forall_mem_cons.mpr ⟨lw_p15, fun _ h => absurd h List.not_mem_nil⟩⟩⟩⟩⟩⟩⟩⟩⟩⟩⟩⟩⟩⟩⟩⟩
theorem lw_p16 : lw_okq (⟨"ServiceRows2", "write", "(LServiceRows2$Question;)I"⟩, 16) := ⟨⟨by decide +kernel, by decide +kernel⟩, List.mem_of_getElem? (i := 15) (by decide +kernel), List.mem_of_getElem? (i := 377) (by decide +kernel), List.mem_of_getElem? (i := 378) (by decide +kernel)⟩
theorem lw_p17 : lw_okq (⟨"ServiceRows2", "takeControl", "(LServiceRows2$Question;)I"⟩, 16) := ⟨⟨by decide +kernel, by decide +kernel⟩, List.mem_of_getElem? (i := 15) (by decide +kernel), List.mem_of_getElem? (i := 385) (by decide +kernel), List.mem_of_getElem? (i := 386) (by decide +kernel)⟩
theorem lw_p18 : lw_okq (⟨"ServiceRows2", "handleRoutine", "(LServiceRows2$Question;)I"⟩, 16) := ⟨⟨by decide +kernel, by decide +kernel⟩, List.mem_of_getElem? (i := 15) (by decide +kernel), List.mem_of_getElem? (i := 402) (by decide +kernel), List.mem_of_getElem? (i := 403) (by decide +kernel)⟩
theorem lw_p19 : lw_okq (⟨"ServiceRows2", "applyToRoutine", "(LServiceRows2$Routine;I)I"⟩, 16) := ⟨⟨by decide +kernel, by decide +kernel⟩, List.mem_of_getElem? (i := 15) (by decide +kernel), List.mem_of_getElem? (i := 406) (by decide +kernel), List.mem_of_getElem? (i := 407) (by decide +kernel)⟩
theorem lw_p20 : lw_okq (⟨"ServiceRows2", "startRoutine", "(LServiceRows2$Routine;)I"⟩, 16) := ⟨⟨by decide +kernel, by decide +kernel⟩, List.mem_of_getElem? (i := 15) (by decide +kernel), List.mem_of_getElem? (i := 410) (by decide +kernel), List.mem_of_getElem? (i := 411) (by decide +kernel)⟩
theorem lw_p21 : lw_okq (⟨"ServiceRows2", "askResult", "(LServiceRows2$Routine;)I"⟩, 16) := ⟨⟨by decide +kernel, by decide +kernel⟩, List.mem_of_getElem? (i := 15) (by decide +kernel), List.mem_of_getElem? (i := 418) (by decide +kernel), List.mem_of_getElem? (i := 419) (by decide +kernel)⟩
theorem lw_p22 : lw_okq (⟨"ServiceRows2", "openTransfer", "(LServiceRows2$Question;)I"⟩, 16) := ⟨⟨by decide +kernel, by decide +kernel⟩, List.mem_of_getElem? (i := 15) (by decide +kernel), List.mem_of_getElem? (i := 422) (by decide +kernel), List.mem_of_getElem? (i := 423) (by decide +kernel)⟩
theorem lw_p23 : lw_okq (⟨"ServiceRows2", "takeBlock", "(LServiceRows2$Question;)I"⟩, 16) := ⟨⟨by decide +kernel, by decide +kernel⟩, List.mem_of_getElem? (i := 15) (by decide +kernel), List.mem_of_getElem? (i := 430) (by decide +kernel), List.mem_of_getElem? (i := 431) (by decide +kernel)⟩
theorem lw_p24 : lw_okq (⟨"ServiceRows2", "closeTransfer", "(LServiceRows2$Question;)I"⟩, 16) := ⟨⟨by decide +kernel, by decide +kernel⟩, List.mem_of_getElem? (i := 15) (by decide +kernel), List.mem_of_getElem? (i := 448) (by decide +kernel), List.mem_of_getElem? (i := 449) (by decide +kernel)⟩
theorem lw_p25 : lw_okq (⟨"ServiceRows2", "stayPresent", "(LServiceRows2$Question;)I"⟩, 16) := ⟨⟨by decide +kernel, by decide +kernel⟩, List.mem_of_getElem? (i := 15) (by decide +kernel), List.mem_of_getElem? (i := 452) (by decide +kernel), List.mem_of_getElem? (i := 453) (by decide +kernel)⟩
theorem lw_p26 : lw_okq (⟨"java/lang/Throwable", "fillInStackTrace", "(I)Ljava/lang/Throwable;"⟩, 6) := ⟨⟨by decide +kernel, by decide +kernel⟩, List.mem_of_getElem? (i := 540) (by decide +kernel), List.mem_of_getElem? (i := 538) (by decide +kernel), List.mem_of_getElem? (i := 539) (by decide +kernel)⟩
theorem lw_p27 : lw_okq (⟨"ServiceRows2Model", "find", "(I)I"⟩, 43) := ⟨⟨by decide +kernel, by decide +kernel⟩, List.mem_of_getElem? (i := 577) (by decide +kernel), List.mem_of_getElem? (i := 729) (by decide +kernel), List.mem_of_getElem? (i := 730) (by decide +kernel)⟩
theorem lw_p28 : lw_okq (⟨"ServiceRows2Model", "add", "(IIII)I"⟩, 43) := ⟨⟨by decide +kernel, by decide +kernel⟩, List.mem_of_getElem? (i := 577) (by decide +kernel), List.mem_of_getElem? (i := 733) (by decide +kernel), List.mem_of_getElem? (i := 734) (by decide +kernel)⟩
theorem lw_p29 : lw_okq (⟨"ServiceRows2Model", "valueOf", "(I)J"⟩, 43) := ⟨⟨by decide +kernel, by decide +kernel⟩, List.mem_of_getElem? (i := 577) (by decide +kernel), List.mem_of_getElem? (i := 767) (by decide +kernel), List.mem_of_getElem? (i := 768) (by decide +kernel)⟩
theorem lw_p30 : lw_okq (⟨"ServiceRows2Model", "octet", "(II)I"⟩, 43) := ⟨⟨by decide +kernel, by decide +kernel⟩, List.mem_of_getElem? (i := 577) (by decide +kernel), List.mem_of_getElem? (i := 771) (by decide +kernel), List.mem_of_getElem? (i := 772) (by decide +kernel)⟩
theorem lw_p31 : lw_okq (⟨"ServiceRows2Model", "looked", "()I"⟩, 43) := ⟨⟨by decide +kernel, by decide +kernel⟩, List.mem_of_getElem? (i := 577) (by decide +kernel), List.mem_of_getElem? (i := 779) (by decide +kernel), List.mem_of_getElem? (i := 780) (by decide +kernel)⟩
def lw_privs_2 : List (MethodName × Nat) := [(⟨"ServiceRows2", "write", "(LServiceRows2$Question;)I"⟩, 16), (⟨"ServiceRows2", "takeControl", "(LServiceRows2$Question;)I"⟩, 16), (⟨"ServiceRows2", "handleRoutine", "(LServiceRows2$Question;)I"⟩, 16), (⟨"ServiceRows2", "applyToRoutine", "(LServiceRows2$Routine;I)I"⟩, 16), (⟨"ServiceRows2", "startRoutine", "(LServiceRows2$Routine;)I"⟩, 16), (⟨"ServiceRows2", "askResult", "(LServiceRows2$Routine;)I"⟩, 16), (⟨"ServiceRows2", "openTransfer", "(LServiceRows2$Question;)I"⟩, 16), (⟨"ServiceRows2", "takeBlock", "(LServiceRows2$Question;)I"⟩, 16), (⟨"ServiceRows2", "closeTransfer", "(LServiceRows2$Question;)I"⟩, 16), (⟨"ServiceRows2", "stayPresent", "(LServiceRows2$Question;)I"⟩, 16), (⟨"java/lang/Throwable", "fillInStackTrace", "(I)Ljava/lang/Throwable;"⟩, 6), (⟨"ServiceRows2Model", "find", "(I)I"⟩, 43), (⟨"ServiceRows2Model", "add", "(IIII)I"⟩, 43), (⟨"ServiceRows2Model", "valueOf", "(I)J"⟩, 43), (⟨"ServiceRows2Model", "octet", "(II)I"⟩, 43), (⟨"ServiceRows2Model", "looked", "()I"⟩, 43)]
theorem lw_r2 : ∀ q ∈ lw_privs_2, lw_okq q := List.forall_mem_cons.mpr ⟨lw_p16, List.forall_mem_cons.mpr ⟨lw_p17, List.forall_mem_cons.mpr ⟨lw_p18, List.forall_mem_cons.mpr ⟨lw_p19, List.forall_mem_cons.mpr ⟨lw_p20, List.forall_mem_cons.mpr ⟨lw_p21, List.forall_mem_cons.mpr ⟨lw_p22, List.forall_mem_cons.mpr ⟨lw_p23, List.forall_mem_cons.mpr ⟨lw_p24, List.forall_mem_cons.mpr ⟨lw_p25, List.forall_mem_cons.mpr ⟨lw_p26, List.forall_mem_cons.mpr ⟨lw_p27, List.forall_mem_cons.mpr ⟨lw_p28, List.forall_mem_cons.mpr ⟨lw_p29, List.forall_mem_cons.mpr ⟨lw_p30, List.forall_mem_cons.mpr ⟨lw_p31, fun _ h => absurd h List.not_mem_nil⟩⟩⟩⟩⟩⟩⟩⟩⟩⟩⟩⟩⟩⟩⟩⟩
theorem lw_p32 : lw_okq (⟨"ServiceRows2Model", "served", "()I"⟩, 43) := ⟨⟨by decide +kernel, by decide +kernel⟩, List.mem_of_getElem? (i := 577) (by decide +kernel), List.mem_of_getElem? (i := 783) (by decide +kernel), List.mem_of_getElem? (i := 784) (by decide +kernel)⟩
theorem lw_p33 : lw_okq (⟨"ServiceRows2Model", "ends", "(I)V"⟩, 43) := ⟨⟨by decide +kernel, by decide +kernel⟩, List.mem_of_getElem? (i := 577) (by decide +kernel), List.mem_of_getElem? (i := 787) (by decide +kernel), List.mem_of_getElem? (i := 788) (by decide +kernel)⟩
theorem lw_p34 : lw_okq (⟨"ServiceRows2Model", "say", "(I)V"⟩, 43) := ⟨⟨by decide +kernel, by decide +kernel⟩, List.mem_of_getElem? (i := 577) (by decide +kernel), List.mem_of_getElem? (i := 791) (by decide +kernel), List.mem_of_getElem? (i := 792) (by decide +kernel)⟩
theorem lw_p35 : lw_okq (⟨"ServiceRows2Model", "read", "(I)I"⟩, 43) := ⟨⟨by decide +kernel, by decide +kernel⟩, List.mem_of_getElem? (i := 577) (by decide +kernel), List.mem_of_getElem? (i := 795) (by decide +kernel), List.mem_of_getElem? (i := 796) (by decide +kernel)⟩
theorem lw_p36 : lw_okq (⟨"ServiceRows2Model", "told", "(I)I"⟩, 43) := ⟨⟨by decide +kernel, by decide +kernel⟩, List.mem_of_getElem? (i := 577) (by decide +kernel), List.mem_of_getElem? (i := 799) (by decide +kernel), List.mem_of_getElem? (i := 800) (by decide +kernel)⟩
theorem lw_p37 : lw_okq (⟨"ServiceRows2Model", "isHere", "(I)Z"⟩, 43) := ⟨⟨by decide +kernel, by decide +kernel⟩, List.mem_of_getElem? (i := 577) (by decide +kernel), List.mem_of_getElem? (i := 803) (by decide +kernel), List.mem_of_getElem? (i := 804) (by decide +kernel)⟩
theorem lw_p38 : lw_okq (⟨"ServiceRows2Model", "write", "(I)I"⟩, 43) := ⟨⟨by decide +kernel, by decide +kernel⟩, List.mem_of_getElem? (i := 577) (by decide +kernel), List.mem_of_getElem? (i := 807) (by decide +kernel), List.mem_of_getElem? (i := 808) (by decide +kernel)⟩
theorem lw_p39 : lw_okq (⟨"ServiceRows2Model", "number", "(II)J"⟩, 43) := ⟨⟨by decide +kernel, by decide +kernel⟩, List.mem_of_getElem? (i := 577) (by decide +kernel), List.mem_of_getElem? (i := 811) (by decide +kernel), List.mem_of_getElem? (i := 812) (by decide +kernel)⟩
theorem lw_p40 : lw_okq (⟨"ServiceRows2Model", "threeSaid", "(III)V"⟩, 43) := ⟨⟨by decide +kernel, by decide +kernel⟩, List.mem_of_getElem? (i := 577) (by decide +kernel), List.mem_of_getElem? (i := 815) (by decide +kernel), List.mem_of_getElem? (i := 816) (by decide +kernel)⟩
theorem lw_p41 : lw_okq (⟨"ServiceRows2Model", "controls", "(I)I"⟩, 43) := ⟨⟨by decide +kernel, by decide +kernel⟩, List.mem_of_getElem? (i := 577) (by decide +kernel), List.mem_of_getElem? (i := 819) (by decide +kernel), List.mem_of_getElem? (i := 820) (by decide +kernel)⟩
theorem lw_p42 : lw_okq (⟨"ServiceRows2Model", "runs", "(II)I"⟩, 43) := ⟨⟨by decide +kernel, by decide +kernel⟩, List.mem_of_getElem? (i := 577) (by decide +kernel), List.mem_of_getElem? (i := 823) (by decide +kernel), List.mem_of_getElem? (i := 824) (by decide +kernel)⟩
theorem lw_p43 : lw_okq (⟨"ServiceRows2Model", "takes", "(I)I"⟩, 43) := ⟨⟨by decide +kernel, by decide +kernel⟩, List.mem_of_getElem? (i := 577) (by decide +kernel), List.mem_of_getElem? (i := 828) (by decide +kernel), List.mem_of_getElem? (i := 829) (by decide +kernel)⟩
def lw_privs_3 : List (MethodName × Nat) := [(⟨"ServiceRows2Model", "served", "()I"⟩, 43), (⟨"ServiceRows2Model", "ends", "(I)V"⟩, 43), (⟨"ServiceRows2Model", "say", "(I)V"⟩, 43), (⟨"ServiceRows2Model", "read", "(I)I"⟩, 43), (⟨"ServiceRows2Model", "told", "(I)I"⟩, 43), (⟨"ServiceRows2Model", "isHere", "(I)Z"⟩, 43), (⟨"ServiceRows2Model", "write", "(I)I"⟩, 43), (⟨"ServiceRows2Model", "number", "(II)J"⟩, 43), (⟨"ServiceRows2Model", "threeSaid", "(III)V"⟩, 43), (⟨"ServiceRows2Model", "controls", "(I)I"⟩, 43), (⟨"ServiceRows2Model", "runs", "(II)I"⟩, 43), (⟨"ServiceRows2Model", "takes", "(I)I"⟩, 43)]
theorem lw_r3 : ∀ q ∈ lw_privs_3, lw_okq q := List.forall_mem_cons.mpr ⟨lw_p32, List.forall_mem_cons.mpr ⟨lw_p33, List.forall_mem_cons.mpr ⟨lw_p34, List.forall_mem_cons.mpr ⟨lw_p35, List.forall_mem_cons.mpr ⟨lw_p36, List.forall_mem_cons.mpr ⟨lw_p37, List.forall_mem_cons.mpr ⟨lw_p38, List.forall_mem_cons.mpr ⟨lw_p39, List.forall_mem_cons.mpr ⟨lw_p40, List.forall_mem_cons.mpr ⟨lw_p41, List.forall_mem_cons.mpr ⟨lw_p42, List.forall_mem_cons.mpr ⟨lw_p43, fun _ h => absurd h List.not_mem_nil⟩⟩⟩⟩⟩⟩⟩⟩⟩⟩⟩⟩
def lw_privs : List (MethodName × Nat) := lw_privs_1 ++ (lw_privs_2 ++ (lw_privs_3))
def lw_tbl : List Cond := k2_sels lw_privs ++ tables_1
theorem lw_privs_ok : ∀ q ∈ lw_privs, lw_okq q := by
  show ∀ q ∈ lw_privs_1 ++ (lw_privs_2 ++ (lw_privs_3)), lw_okq q
  exact List.forall_mem_append.mpr ⟨lw_r1, List.forall_mem_append.mpr ⟨lw_r2, lw_r3⟩⟩
end
section
/-! ===== BEGIN words of one list among another's, by their places ===== -/
theorem goodIn_r {big : List Cond} (ws : List Cond) (ps : List Nat) (hp : ws = ps.filterMap (fun i => big[i]?)) (h : ws.all goodWord = true) : GoodIn big ws := by
  intro w hw
  have h1 := List.all_eq_true.mp h w hw
  rw [hp] at hw
  obtain ⟨i, -, hi⟩ := List.mem_filterMap.mp hw
  have hm : w ∈ big := by first | exact List.mem_of_getElem? hi | exact List.getElem?_mem hi
  exact ⟨hm, good_of_word h1⟩
theorem goodIn_app {big a b : List Cond} (ha : GoodIn big a) (hb : GoodIn big b) : GoodIn big (a ++ b) := fun w h => (List.mem_append.mp h).elim (ha w) (hb w)
theorem goodIn_ca {big a b : List Cond} {c : Cond} (ha : GoodIn big (c :: a)) (hb : GoodIn big b) : GoodIn big (c :: (a ++ b)) := fun w h => (List.mem_cons.mp h).elim (fun e => ha w (List.mem_cons.mpr (Or.inl e))) (fun h => (List.mem_append.mp h).elim (fun h => ha w (List.mem_cons.mpr (Or.inr h))) (hb w))
theorem goodIn_sub {big ws : List Cond} (hm : ∀ w ∈ ws, w ∈ big) (h : ws.all goodWord = true) : GoodIn big ws := fun w hw => ⟨hm w hw, good_of_word (List.all_eq_true.mp h w hw)⟩
/-! ===== END ===== -/

/-! ===== BEGIN printed: names, fields, word lists, decode rows ===== -/
def RX0 : String := "ServiceRows2$Answer"
def TX0 : u_T := fun k => match k with
  | 0 => ("ServiceRows2$Answer", "octets", "[B", true)
  | _ => ("ServiceRows2$Answer", "length", "I", false)
def tyX0 : Nat → FieldType := fun k => match k with
  | 0 => .array .byte
  | _ => .int
abbrev wsX00 : List Cond := u_ws RX0 TX0 2
theorem nmX0 : ∀ a, a < 2 → ∀ b, b < 2 → a ≠ b → (TX0 a).2.1 ≠ (TX0 b).2.1 := by decide +kernel
theorem tyX0_ok : ∀ k, k < 2 → parseFieldDescriptor (TX0 k).2.2.1 = some (tyX0 k) := by decide +kernel
abbrev cX0_init : ByteArray := prog_2_method_1_code
def yX0_init : MethodName := ⟨RX0, "<init>", "()V"⟩
abbrev cX0_clear : ByteArray := prog_2_method_2_code
def yX0_clear : MethodName := ⟨RX0, "clear", "()V"⟩
abbrev cX0_put : ByteArray := prog_2_method_3_code
def yX0_put : MethodName := ⟨RX0, "put", "(I)V"⟩
abbrev cX0_putWord : ByteArray := prog_2_method_4_code
def yX0_putWord : MethodName := ⟨RX0, "putWord", "(I)V"⟩
abbrev cX0_has : ByteArray := prog_2_method_5_code
def yX0_has : MethodName := ⟨RX0, "has", "(I)Z"⟩
abbrev cX0_octetAt : ByteArray := prog_2_method_6_code
def yX0_octetAt : MethodName := ⟨RX0, "octetAt", "(I)B"⟩
def RX1 : String := "ServiceRows2$Identifier"
def TX1 : u_T := fun k => match k with
  | 0 => ("ServiceRows2$Identifier", "id", "I", true)
  | 1 => ("ServiceRows2$Identifier", "session", "I", true)
  | 2 => ("ServiceRows2$Identifier", "level", "I", true)
  | 3 => ("ServiceRows2$Identifier", "isTogether", "Z", true)
  | 4 => ("ServiceRows2$Identifier", "length", "I", false)
  | 5 => ("ServiceRows2$Identifier", "mayBeWritten", "Z", false)
  | 6 => ("ServiceRows2$Identifier", "own", "J", false)
  | 7 => ("ServiceRows2$Identifier", "isHeld", "Z", false)
  | 8 => ("ServiceRows2$Identifier", "held", "J", false)
  | 9 => ("ServiceRows2$Identifier", "sources", "[LServiceRows2$Identifier;", true)
  | _ => ("ServiceRows2$Identifier", "places", "[I", true)
def tyX1 : Nat → FieldType := fun k => match k with
  | 0 => .int
  | 1 => .int
  | 2 => .int
  | 3 => .boolean
  | 4 => .int
  | 5 => .boolean
  | 6 => .long
  | 7 => .boolean
  | 8 => .long
  | 9 => .array (.object "ServiceRows2$Identifier")
  | _ => .array .int
abbrev wsX10 : List Cond := u_ws RX1 TX1 11
theorem nmX1 : ∀ a, a < 11 → ∀ b, b < 11 → a ≠ b → (TX1 a).2.1 ≠ (TX1 b).2.1 := by decide +kernel
theorem tyX1_ok : ∀ k, k < 11 → parseFieldDescriptor (TX1 k).2.2.1 = some (tyX1 k) := by decide +kernel
abbrev cX1_init : ByteArray := prog_3_method_1_code
def yX1_init : MethodName := ⟨RX1, "<init>", "(IIIIZ)V"⟩
abbrev cX1_append : ByteArray := prog_3_method_2_code
def yX1_append : MethodName := ⟨RX1, "append", "(LServiceRows2$Identifier;I)V"⟩
abbrev cX1_hold : ByteArray := prog_3_method_3_code
def yX1_hold : MethodName := ⟨RX1, "hold", "(J)V"⟩
abbrev cX1_release : ByteArray := prog_3_method_4_code
def yX1_release : MethodName := ⟨RX1, "release", "()V"⟩
abbrev cX1_octetAt : ByteArray := prog_3_method_5_code
def yX1_octetAt : MethodName := ⟨RX1, "octetAt", "(I)I"⟩
abbrev cX1_ordinaryOctetAt : ByteArray := prog_3_method_6_code
def yX1_ordinaryOctetAt : MethodName := ⟨RX1, "ordinaryOctetAt", "(I)I"⟩
abbrev cX1_number : ByteArray := prog_3_method_7_code
def yX1_number : MethodName := ⟨RX1, "number", "()J"⟩
def RX2 : String := "ServiceRows2$Question"
def TX2 : u_T := fun k => match k with
  | 0 => ("ServiceRows2$Question", "octets", "[B", true)
  | 1 => ("ServiceRows2$Question", "isBegun", "Z", false)
  | 2 => ("ServiceRows2$Question", "due", "I", false)
  | 3 => ("ServiceRows2$Question", "count", "I", false)
  | _ => ("ServiceRows2$Question", "isToAll", "Z", false)
def tyX2 : Nat → FieldType := fun k => match k with
  | 0 => .array .byte
  | 1 => .boolean
  | 2 => .int
  | 3 => .int
  | _ => .boolean
abbrev wsX20 : List Cond := u_ws RX2 TX2 5
theorem nmX2 : ∀ a, a < 5 → ∀ b, b < 5 → a ≠ b → (TX2 a).2.1 ≠ (TX2 b).2.1 := by decide +kernel
theorem tyX2_ok : ∀ k, k < 5 → parseFieldDescriptor (TX2 k).2.2.1 = some (tyX2 k) := by decide +kernel
abbrev cX2_init : ByteArray := prog_4_method_1_code
def yX2_init : MethodName := ⟨RX2, "<init>", "()V"⟩
abbrev cX2_take : ByteArray := prog_4_method_2_code
def yX2_take : MethodName := ⟨RX2, "take", "(B)V"⟩
abbrev cX2_isWhole : ByteArray := prog_4_method_3_code
def yX2_isWhole : MethodName := ⟨RX2, "isWhole", "()Z"⟩
abbrev cX2_end : ByteArray := prog_4_method_4_code
def yX2_end : MethodName := ⟨RX2, "end", "()V"⟩
abbrev cX2_isEmpty : ByteArray := prog_4_method_5_code
def yX2_isEmpty : MethodName := ⟨RX2, "isEmpty", "()Z"⟩
abbrev cX2_service : ByteArray := prog_4_method_6_code
def yX2_service : MethodName := ⟨RX2, "service", "()I"⟩
abbrev cX2_size : ByteArray := prog_4_method_7_code
def yX2_size : MethodName := ⟨RX2, "size", "()I"⟩
abbrev cX2_octetAt : ByteArray := prog_4_method_8_code
def yX2_octetAt : MethodName := ⟨RX2, "octetAt", "(I)I"⟩
abbrev cX2_word : ByteArray := prog_4_method_9_code
def yX2_word : MethodName := ⟨RX2, "word", "(I)I"⟩
abbrev cX2_number : ByteArray := prog_4_method_10_code
def yX2_number : MethodName := ⟨RX2, "number", "(II)J"⟩
abbrev cX2_function : ByteArray := prog_4_method_11_code
def yX2_function : MethodName := ⟨RX2, "function", "()I"⟩
abbrev cX2_wantsNoAnswer : ByteArray := prog_4_method_12_code
def yX2_wantsNoAnswer : MethodName := ⟨RX2, "wantsNoAnswer", "()Z"⟩
def RX3 : String := "ServiceRows2$Routine"
def TX3 : u_T := fun k => match k with
  | 0 => ("ServiceRows2$Routine", "id", "I", true)
  | 1 => ("ServiceRows2$Routine", "steps", "I", true)
  | 2 => ("ServiceRows2$Routine", "isStarted", "Z", false)
  | 3 => ("ServiceRows2$Routine", "left", "I", false)
  | _ => ("ServiceRows2$Routine", "waitsTold", "I", false)
def tyX3 : Nat → FieldType := fun k => match k with
  | 0 => .int
  | 1 => .int
  | 2 => .boolean
  | 3 => .int
  | _ => .int
abbrev wsX30 : List Cond := u_ws RX3 TX3 5
theorem nmX3 : ∀ a, a < 5 → ∀ b, b < 5 → a ≠ b → (TX3 a).2.1 ≠ (TX3 b).2.1 := by decide +kernel
theorem tyX3_ok : ∀ k, k < 5 → parseFieldDescriptor (TX3 k).2.2.1 = some (tyX3 k) := by decide +kernel
abbrev cX3_init : ByteArray := prog_5_method_1_code
def yX3_init : MethodName := ⟨RX3, "<init>", "(II)V"⟩
abbrev cX3_start : ByteArray := prog_5_method_2_code
def yX3_start : MethodName := ⟨RX3, "start", "()V"⟩
abbrev cX3_step : ByteArray := prog_5_method_3_code
def yX3_step : MethodName := ⟨RX3, "step", "()V"⟩
abbrev cX3_forget : ByteArray := prog_5_method_4_code
def yX3_forget : MethodName := ⟨RX3, "forget", "()V"⟩
def RX4 : String := "ServiceRows2$Transfer"
def TX4 : u_T := fun k => match k with
  | 0 => ("ServiceRows2$Transfer", "isOpen", "Z", false)
  | 1 => ("ServiceRows2$Transfer", "missing", "I", false)
  | 2 => ("ServiceRows2$Transfer", "sum", "I", false)
  | _ => ("ServiceRows2$Transfer", "blocks", "I", false)
def tyX4 : Nat → FieldType := fun k => match k with
  | 0 => .boolean
  | 1 => .int
  | 2 => .int
  | _ => .int
abbrev wsX40 : List Cond := u_ws RX4 TX4 4
theorem nmX4 : ∀ a, a < 4 → ∀ b, b < 4 → a ≠ b → (TX4 a).2.1 ≠ (TX4 b).2.1 := by decide +kernel
theorem tyX4_ok : ∀ k, k < 4 → parseFieldDescriptor (TX4 k).2.2.1 = some (tyX4 k) := by decide +kernel
abbrev cX4_init : ByteArray := prog_6_method_1_code
def yX4_init : MethodName := ⟨RX4, "<init>", "()V"⟩
abbrev cX4_open : ByteArray := prog_6_method_2_code
def yX4_open : MethodName := ⟨RX4, "open", "(I)V"⟩
abbrev cX4_close : ByteArray := prog_6_method_3_code
def yX4_close : MethodName := ⟨RX4, "close", "()V"⟩
abbrev cX4_isBlockBefore : ByteArray := prog_6_method_4_code
def yX4_isBlockBefore : MethodName := ⟨RX4, "isBlockBefore", "(I)Z"⟩
abbrev cX4_nextBlock : ByteArray := prog_6_method_5_code
def yX4_nextBlock : MethodName := ⟨RX4, "nextBlock", "()I"⟩
abbrev cX4_add : ByteArray := prog_6_method_6_code
def yX4_add : MethodName := ⟨RX4, "add", "(LServiceRows2$Question;I)V"⟩
def RX5 : String := "ServiceRows2"
def TX5 : u_T := fun k => match k with
  | 0 => ("ServiceRows2", "identifiers", "[LServiceRows2$Identifier;", true)
  | 1 => ("ServiceRows2", "identifierCount", "I", false)
  | 2 => ("ServiceRows2", "routines", "[LServiceRows2$Routine;", true)
  | 3 => ("ServiceRows2", "routineCount", "I", false)
  | 4 => ("ServiceRows2", "standing", "Z", false)
  | 5 => ("ServiceRows2", "quiet", "Z", false)
  | 6 => ("ServiceRows2", "session", "I", false)
  | 7 => ("ServiceRows2", "level", "I", false)
  | 8 => ("ServiceRows2", "bound", "I", false)
  | 9 => ("ServiceRows2", "time", "J", false)
  | 10 => ("ServiceRows2", "questionTime", "J", false)
  | 11 => ("ServiceRows2", "lastCode", "I", false)
  | 12 => ("ServiceRows2", "asked", "LServiceRows2$Question;", true)
  | 13 => ("ServiceRows2", "block", "LServiceRows2$Question;", true)
  | 14 => ("ServiceRows2", "reply", "LServiceRows2$Answer;", true)
  | _ => ("ServiceRows2", "moved", "LServiceRows2$Transfer;", true)
def tyX5 : Nat → FieldType := fun k => match k with
  | 0 => .array (.object "ServiceRows2$Identifier")
  | 1 => .int
  | 2 => .array (.object "ServiceRows2$Routine")
  | 3 => .int
  | 4 => .boolean
  | 5 => .boolean
  | 6 => .int
  | 7 => .int
  | 8 => .int
  | 9 => .long
  | 10 => .long
  | 11 => .int
  | 12 => .object "ServiceRows2$Question"
  | 13 => .object "ServiceRows2$Question"
  | 14 => .object "ServiceRows2$Answer"
  | _ => .object "ServiceRows2$Transfer"
abbrev wsX50 : List Cond := u_ws RX5 TX5 16
theorem nmX5 : ∀ a, a < 16 → ∀ b, b < 16 → a ≠ b → (TX5 a).2.1 ≠ (TX5 b).2.1 := by decide +kernel
theorem tyX5_ok : ∀ k, k < 16 → parseFieldDescriptor (TX5 k).2.2.1 = some (tyX5 k) := by decide +kernel
abbrev cX5_init : ByteArray := prog_1_method_1_code
def yX5_init : MethodName := ⟨RX5, "<init>", "()V"⟩
abbrev cX5_identifier : ByteArray := prog_1_method_2_code
def yX5_identifier : MethodName := ⟨RX5, "identifier", "(IIII)I"⟩
abbrev cX5_dynamic : ByteArray := prog_1_method_3_code
def yX5_dynamic : MethodName := ⟨RX5, "dynamic", "(III)I"⟩
abbrev cX5_routine : ByteArray := prog_1_method_4_code
def yX5_routine : MethodName := ⟨RX5, "routine", "(II)I"⟩
abbrev cX5_condition : ByteArray := prog_1_method_5_code
def yX5_condition : MethodName := ⟨RX5, "condition", "(IZ)I"⟩
abbrev cX5_rights : ByteArray := prog_1_method_6_code
def yX5_rights : MethodName := ⟨RX5, "rights", "(I)I"⟩
abbrev cX5_control : ByteArray := prog_1_method_7_code
def yX5_control : MethodName := ⟨RX5, "control", "(IIJ)I"⟩
abbrev cX5_pending : ByteArray := prog_1_method_8_code
def yX5_pending : MethodName := ⟨RX5, "pending", "(I)I"⟩
abbrev cX5_ask : ByteArray := prog_1_method_9_code
def yX5_ask : MethodName := ⟨RX5, "ask", "(B)I"⟩
abbrev cX5_answer : ByteArray := prog_1_method_10_code
def yX5_answer : MethodName := ⟨RX5, "answer", "(I)B"⟩
abbrev cX5_code : ByteArray := prog_1_method_11_code
def yX5_code : MethodName := ⟨RX5, "code", "()I"⟩
abbrev cX5_transfer : ByteArray := prog_1_method_12_code
def yX5_transfer : MethodName := ⟨RX5, "transfer", "(IB)I"⟩
abbrev cX5_tick : ByteArray := prog_1_method_13_code
def yX5_tick : MethodName := ⟨RX5, "tick", "(J)I"⟩
abbrev cX5_value : ByteArray := prog_1_method_14_code
def yX5_value : MethodName := ⟨RX5, "value", "(I)J"⟩
abbrev cX5_isWithin : ByteArray := prog_1_method_15_code
def yX5_isWithin : MethodName := ⟨RX5, "isWithin", "(III)Z"⟩
abbrev cX5_findIdentifier : ByteArray := prog_1_method_16_code
def yX5_findIdentifier : MethodName := ⟨RX5, "findIdentifier", "(I)LServiceRows2$Identifier;"⟩
abbrev cX5_hasRoomForIdentifier : ByteArray := prog_1_method_17_code
def yX5_hasRoomForIdentifier : MethodName := ⟨RX5, "hasRoomForIdentifier", "()Z"⟩
abbrev cX5_addIdentifier : ByteArray := prog_1_method_18_code
def yX5_addIdentifier : MethodName := ⟨RX5, "addIdentifier", "(LServiceRows2$Identifier;)V"⟩
abbrev cX5_findRoutine : ByteArray := prog_1_method_19_code
def yX5_findRoutine : MethodName := ⟨RX5, "findRoutine", "(I)LServiceRows2$Routine;"⟩
abbrev cX5_findHere : ByteArray := prog_1_method_20_code
def yX5_findHere : MethodName := ⟨RX5, "findHere", "(I)LServiceRows2$Identifier;"⟩
abbrev cX5_endSession : ByteArray := prog_1_method_21_code
def yX5_endSession : MethodName := ⟨RX5, "endSession", "(I)V"⟩
abbrev cX5_conclude : ByteArray := prog_1_method_22_code
def yX5_conclude : MethodName := ⟨RX5, "conclude", "(LServiceRows2$Question;)V"⟩
abbrev cX5_isKeptFromAll : ByteArray := prog_1_method_23_code
def yX5_isKeptFromAll : MethodName := ⟨RX5, "isKeptFromAll", "(I)Z"⟩
abbrev cX5_serve : ByteArray := prog_1_method_24_code
def yX5_serve : MethodName := ⟨RX5, "serve", "(LServiceRows2$Question;)I"⟩
abbrev cX5_changeSession : ByteArray := prog_1_method_25_code
def yX5_changeSession : MethodName := ⟨RX5, "changeSession", "(LServiceRows2$Question;)I"⟩
abbrev cX5_stayPresent : ByteArray := prog_1_method_26_code
def yX5_stayPresent : MethodName := ⟨RX5, "stayPresent", "(LServiceRows2$Question;)I"⟩
abbrev cX5_reset : ByteArray := prog_1_method_27_code
def yX5_reset : MethodName := ⟨RX5, "reset", "(LServiceRows2$Question;)I"⟩
abbrev cX5_forgetRoutines : ByteArray := prog_1_method_28_code
def yX5_forgetRoutines : MethodName := ⟨RX5, "forgetRoutines", "()V"⟩
abbrev cX5_clearOwnValues : ByteArray := prog_1_method_29_code
def yX5_clearOwnValues : MethodName := ⟨RX5, "clearOwnValues", "()V"⟩
abbrev cX5_read : ByteArray := prog_1_method_30_code
def yX5_read : MethodName := ⟨RX5, "read", "(LServiceRows2$Question;)I"⟩
abbrev cX5_replyOctetsOf : ByteArray := prog_1_method_31_code
def yX5_replyOctetsOf : MethodName := ⟨RX5, "replyOctetsOf", "(LServiceRows2$Identifier;)V"⟩
abbrev cX5_write : ByteArray := prog_1_method_32_code
def yX5_write : MethodName := ⟨RX5, "write", "(LServiceRows2$Question;)I"⟩
abbrev cX5_takeControl : ByteArray := prog_1_method_33_code
def yX5_takeControl : MethodName := ⟨RX5, "takeControl", "(LServiceRows2$Question;)I"⟩
abbrev cX5_setControl : ByteArray := prog_1_method_34_code
def yX5_setControl : MethodName := ⟨RX5, "setControl", "(LServiceRows2$Identifier;ILServiceRows2$Question;)V"⟩
abbrev cX5_handleRoutine : ByteArray := prog_1_method_35_code
def yX5_handleRoutine : MethodName := ⟨RX5, "handleRoutine", "(LServiceRows2$Question;)I"⟩
abbrev cX5_applyToRoutine : ByteArray := prog_1_method_36_code
def yX5_applyToRoutine : MethodName := ⟨RX5, "applyToRoutine", "(LServiceRows2$Routine;I)I"⟩
abbrev cX5_startRoutine : ByteArray := prog_1_method_37_code
def yX5_startRoutine : MethodName := ⟨RX5, "startRoutine", "(LServiceRows2$Routine;)I"⟩
abbrev cX5_askResult : ByteArray := prog_1_method_38_code
def yX5_askResult : MethodName := ⟨RX5, "askResult", "(LServiceRows2$Routine;)I"⟩
abbrev cX5_openTransfer : ByteArray := prog_1_method_39_code
def yX5_openTransfer : MethodName := ⟨RX5, "openTransfer", "(LServiceRows2$Question;)I"⟩
abbrev cX5_takeBlock : ByteArray := prog_1_method_40_code
def yX5_takeBlock : MethodName := ⟨RX5, "takeBlock", "(LServiceRows2$Question;)I"⟩
abbrev cX5_closeTransfer : ByteArray := prog_1_method_41_code
def yX5_closeTransfer : MethodName := ⟨RX5, "closeTransfer", "(LServiceRows2$Question;)I"⟩
abbrev cX5_beginReply : ByteArray := prog_1_method_42_code
def yX5_beginReply : MethodName := ⟨RX5, "beginReply", "(LServiceRows2$Question;)V"⟩
def RX6 : String := "ServiceRows2Model"
def TX6 : u_T := fun k => match k with
  | 0 => ("ServiceRows2Model", "thrown", "I", false)
  | 1 => ("ServiceRows2Model", "present", "I", false)
  | 2 => ("ServiceRows2Model", "level", "I", false)
  | 3 => ("ServiceRows2Model", "now", "J", false)
  | 4 => ("ServiceRows2Model", "asked", "J", false)
  | 5 => ("ServiceRows2Model", "standing", "Z", false)
  | 6 => ("ServiceRows2Model", "quiet", "Z", false)
  | 7 => ("ServiceRows2Model", "bound", "I", false)
  | 8 => ("ServiceRows2Model", "ids", "I", false)
  | 9 => ("ServiceRows2Model", "id", "[I", true)
  | 10 => ("ServiceRows2Model", "length", "[I", true)
  | 11 => ("ServiceRows2Model", "session", "[I", true)
  | 12 => ("ServiceRows2Model", "needs", "[I", true)
  | 13 => ("ServiceRows2Model", "own", "[J", true)
  | 14 => ("ServiceRows2Model", "controlled", "[Z", true)
  | 15 => ("ServiceRows2Model", "control", "[J", true)
  | 16 => ("ServiceRows2Model", "kept", "[Z", true)
  | 17 => ("ServiceRows2Model", "joined", "[Z", true)
  | 18 => ("ServiceRows2Model", "partOf", "[I", true)
  | 19 => ("ServiceRows2Model", "partAt", "[I", true)
  | 20 => ("ServiceRows2Model", "routines", "I", false)
  | 21 => ("ServiceRows2Model", "routine", "[I", true)
  | 22 => ("ServiceRows2Model", "steps", "[I", true)
  | 23 => ("ServiceRows2Model", "started", "[Z", true)
  | 24 => ("ServiceRows2Model", "left", "[I", true)
  | 25 => ("ServiceRows2Model", "pended", "[I", true)
  | 26 => ("ServiceRows2Model", "open", "Z", false)
  | 27 => ("ServiceRows2Model", "size", "I", false)
  | 28 => ("ServiceRows2Model", "taken", "I", false)
  | 29 => ("ServiceRows2Model", "sum", "I", false)
  | 30 => ("ServiceRows2Model", "block", "I", false)
  | 31 => ("ServiceRows2Model", "hasBlock", "Z", false)
  | 32 => ("ServiceRows2Model", "missing", "I", false)
  | 33 => ("ServiceRows2Model", "begun", "Z", false)
  | 34 => ("ServiceRows2Model", "underAll", "Z", false)
  | 35 => ("ServiceRows2Model", "under", "I", false)
  | 36 => ("ServiceRows2Model", "underRow", "[I", true)
  | 37 => ("ServiceRows2Model", "all", "Z", false)
  | 38 => ("ServiceRows2Model", "many", "I", false)
  | 39 => ("ServiceRows2Model", "row", "[I", true)
  | 40 => ("ServiceRows2Model", "answers", "I", false)
  | 41 => ("ServiceRows2Model", "answer", "[I", true)
  | _ => ("ServiceRows2Model", "failed", "I", false)
def tyX6 : Nat → FieldType := fun k => match k with
  | 0 => .int
  | 1 => .int
  | 2 => .int
  | 3 => .long
  | 4 => .long
  | 5 => .boolean
  | 6 => .boolean
  | 7 => .int
  | 8 => .int
  | 9 => .array .int
  | 10 => .array .int
  | 11 => .array .int
  | 12 => .array .int
  | 13 => .array .long
  | 14 => .array .boolean
  | 15 => .array .long
  | 16 => .array .boolean
  | 17 => .array .boolean
  | 18 => .array .int
  | 19 => .array .int
  | 20 => .int
  | 21 => .array .int
  | 22 => .array .int
  | 23 => .array .boolean
  | 24 => .array .int
  | 25 => .array .int
  | 26 => .boolean
  | 27 => .int
  | 28 => .int
  | 29 => .int
  | 30 => .int
  | 31 => .boolean
  | 32 => .int
  | 33 => .boolean
  | 34 => .boolean
  | 35 => .int
  | 36 => .array .int
  | 37 => .boolean
  | 38 => .int
  | 39 => .array .int
  | 40 => .int
  | 41 => .array .int
  | _ => .int
abbrev wsX60 : List Cond := u_ws RX6 TX6 43
theorem nmX6 : ∀ a, a < 43 → ∀ b, b < 43 → a ≠ b → (TX6 a).2.1 ≠ (TX6 b).2.1 := by decide +kernel
theorem tyX6_ok : ∀ k, k < 43 → parseFieldDescriptor (TX6 k).2.2.1 = some (tyX6 k) := by decide +kernel
abbrev cX6_init : ByteArray := prog_8_method_1_code
def yX6_init : MethodName := ⟨RX6, "<init>", "()V"⟩
abbrev cX6_thrown : ByteArray := prog_8_method_2_code
def yX6_thrown : MethodName := ⟨RX6, "thrown", "()I"⟩
abbrev cX6_find : ByteArray := prog_8_method_3_code
def yX6_find : MethodName := ⟨RX6, "find", "(I)I"⟩
abbrev cX6_isIn : ByteArray := prog_8_method_4_code
def yX6_isIn : MethodName := ⟨RX6, "isIn", "(JJJ)Z"⟩
abbrev cX6_add : ByteArray := prog_8_method_5_code
def yX6_add : MethodName := ⟨RX6, "add", "(IIII)I"⟩
abbrev cX6_identifier : ByteArray := prog_8_method_6_code
def yX6_identifier : MethodName := ⟨RX6, "identifier", "(IIII)I"⟩
abbrev cX6_dynamic : ByteArray := prog_8_method_7_code
def yX6_dynamic : MethodName := ⟨RX6, "dynamic", "(III)I"⟩
abbrev cX6_routine : ByteArray := prog_8_method_8_code
def yX6_routine : MethodName := ⟨RX6, "routine", "(II)I"⟩
abbrev cX6_condition : ByteArray := prog_8_method_9_code
def yX6_condition : MethodName := ⟨RX6, "condition", "(IZ)I"⟩
abbrev cX6_rights : ByteArray := prog_8_method_10_code
def yX6_rights : MethodName := ⟨RX6, "rights", "(I)I"⟩
abbrev cX6_control : ByteArray := prog_8_method_11_code
def yX6_control : MethodName := ⟨RX6, "control", "(IIJ)I"⟩
abbrev cX6_pending : ByteArray := prog_8_method_12_code
def yX6_pending : MethodName := ⟨RX6, "pending", "(I)I"⟩
abbrev cX6_octet : ByteArray := prog_8_method_13_code
def yX6_octet : MethodName := ⟨RX6, "octet", "(II)I"⟩
abbrev cX6_valueOf : ByteArray := prog_8_method_14_code
def yX6_valueOf : MethodName := ⟨RX6, "valueOf", "(I)J"⟩
abbrev cX6_value : ByteArray := prog_8_method_15_code
def yX6_value : MethodName := ⟨RX6, "value", "(I)J"⟩
abbrev cX6_told : ByteArray := prog_8_method_16_code
def yX6_told : MethodName := ⟨RX6, "told", "(I)I"⟩
abbrev cX6_number : ByteArray := prog_8_method_17_code
def yX6_number : MethodName := ⟨RX6, "number", "(II)J"⟩
abbrev cX6_say : ByteArray := prog_8_method_18_code
def yX6_say : MethodName := ⟨RX6, "say", "(I)V"⟩
abbrev cX6_threeSaid : ByteArray := prog_8_method_19_code
def yX6_threeSaid : MethodName := ⟨RX6, "threeSaid", "(III)V"⟩
abbrev cX6_ends : ByteArray := prog_8_method_20_code
def yX6_ends : MethodName := ⟨RX6, "ends", "(I)V"⟩
abbrev cX6_isHere : ByteArray := prog_8_method_21_code
def yX6_isHere : MethodName := ⟨RX6, "isHere", "(I)Z"⟩
abbrev cX6_served : ByteArray := prog_8_method_22_code
def yX6_served : MethodName := ⟨RX6, "served", "()I"⟩
abbrev cX6_read : ByteArray := prog_8_method_23_code
def yX6_read : MethodName := ⟨RX6, "read", "(I)I"⟩
abbrev cX6_write : ByteArray := prog_8_method_24_code
def yX6_write : MethodName := ⟨RX6, "write", "(I)I"⟩
abbrev cX6_controls : ByteArray := prog_8_method_25_code
def yX6_controls : MethodName := ⟨RX6, "controls", "(I)I"⟩
abbrev cX6_runs : ByteArray := prog_8_method_26_code
def yX6_runs : MethodName := ⟨RX6, "runs", "(II)I"⟩
abbrev cX6_takes : ByteArray := prog_8_method_27_code
def yX6_takes : MethodName := ⟨RX6, "takes", "(I)I"⟩
abbrev cX6_looked : ByteArray := prog_8_method_28_code
def yX6_looked : MethodName := ⟨RX6, "looked", "()I"⟩
abbrev cX6_ask : ByteArray := prog_8_method_29_code
def yX6_ask : MethodName := ⟨RX6, "ask", "(B)I"⟩
abbrev cX6_answer : ByteArray := prog_8_method_30_code
def yX6_answer : MethodName := ⟨RX6, "answer", "(I)B"⟩
abbrev cX6_code : ByteArray := prog_8_method_31_code
def yX6_code : MethodName := ⟨RX6, "code", "()I"⟩
abbrev cX6_transfer : ByteArray := prog_8_method_32_code
def yX6_transfer : MethodName := ⟨RX6, "transfer", "(IB)I"⟩
abbrev cX6_tick : ByteArray := prog_8_method_33_code
def yX6_tick : MethodName := ⟨RX6, "tick", "(J)I"⟩
def RJx00060 : String := "java/lang/ArrayIndexOutOfBoundsException"
def TJx00060 : u_T := fun k => match k with
  | 0 => ("java/lang/Throwable", "cause", "Ljava/lang/Throwable;", false)
  | 1 => ("java/lang/Throwable", "stackTrace", "[Ljava/lang/StackTraceElement;", false)
  | 2 => ("java/lang/Throwable", "suppressedExceptions", "Ljava/util/List;", false)
  | 3 => ("java/lang/Throwable", "detailMessage", "Ljava/lang/String;", false)
  | 4 => ("java/lang/Throwable", "backtrace", "Ljava/lang/Object;", false)
  | _ => ("java/lang/Throwable", "depth", "I", false)
def tyJx00060 : Nat → FieldType := fun k => match k with
  | 0 => .object "java/lang/Throwable"
  | 1 => .array (.object "java/lang/StackTraceElement")
  | 2 => .object "java/util/List"
  | 3 => .object "java/lang/String"
  | 4 => .object "java/lang/Object"
  | _ => .int
abbrev wsJx000600 : List Cond := u_ws RJx00060 TJx00060 6
theorem nmJx00060 : ∀ a, a < 6 → ∀ b, b < 6 → a ≠ b → (TJx00060 a).2.1 ≠ (TJx00060 b).2.1 := by decide +kernel
theorem tyJx00060_ok : ∀ k, k < 6 → parseFieldDescriptor (TJx00060 k).2.2.1 = some (tyJx00060 k) := by decide +kernel
abbrev cJx00060_init_a7421 : ByteArray := prog_9_method_2_code
def yJx00060_init_a7421 : MethodName := ⟨RJx00060, "<init>", "(Ljava/lang/String;)V"⟩
def RJ9 : String := "java/lang/Math"
def TJ9 : u_T := fun k => match k with
  | _ => ("", "", "", false)
def tyJ9 : Nat → FieldType := fun k => match k with
  | _ => .int
abbrev wsJ90 : List Cond := u_ws RJ9 TJ9 0
theorem nmJ9 : ∀ a, a < 0 → ∀ b, b < 0 → a ≠ b → (TJ9 a).2.1 ≠ (TJ9 b).2.1 := by decide +kernel
theorem tyJ9_ok : ∀ k, k < 0 → parseFieldDescriptor (TJ9 k).2.2.1 = some (tyJ9 k) := by decide +kernel
abbrev cJ9_min_7cf53 : ByteArray := prog_12_method_69_code
def yJ9_min_7cf53 : MethodName := ⟨RJ9, "min", "(II)I"⟩
def RJ0 : String := "java/lang/String"
def TJ0 : u_T := fun k => match k with
  | _ => ("", "", "", false)
def tyJ0 : Nat → FieldType := fun k => match k with
  | _ => .int
abbrev wsJ00 : List Cond := u_ws RJ0 TJ0 0
theorem nmJ0 : ∀ a, a < 0 → ∀ b, b < 0 → a ≠ b → (TJ0 a).2.1 ≠ (TJ0 b).2.1 := by decide +kernel
theorem tyJ0_ok : ∀ k, k < 0 → parseFieldDescriptor (TJ0 k).2.2.1 = some (tyJ0 k) := by decide +kernel
def RL : String := "ServiceRows2Law"
abbrev cL_answer : ByteArray := method_3_code
def yL_answer : MethodName := ⟨RL, "answer", "(LServiceRows2;I[J)I"⟩
abbrev cL_law : ByteArray := code
def yL_law : MethodName := ⟨RL, "law", "([I)Z"⟩
def wsL_law_r1 : List Cond := [Cond.classLink RL 8 RX5, Cond.instantiable RX5 16, Cond.initialized RX5, Cond.classLink RL 16 RX6, Cond.instantiable RX6 43, Cond.initialized RX6, Cond.arrayClass .long, Cond.constantLong RL 44 (4294967295), Cond.methodLink RL 15 yX5_init, Cond.instanceMethod yX5_init, Cond.code yX5_init cX5_init 1 none, Cond.methodLink RX5 1 objectInit, Cond.instanceMethod objectInit, Cond.code objectInit ⟨#[0xb1]⟩ 1 none, Cond.classLink RX5 9 RX1, Cond.fieldLink RX5 11 "ServiceRows2" "identifiers" "[LServiceRows2$Identifier;", Cond.fieldLink RX5 15 "ServiceRows2" "identifierCount" "I", Cond.classLink RX5 19 RX3, Cond.fieldLink RX5 21 "ServiceRows2" "routines" "[LServiceRows2$Routine;", Cond.fieldLink RX5 25 "ServiceRows2" "routineCount" "I", Cond.fieldLink RX5 28 "ServiceRows2" "standing" "Z", Cond.fieldLink RX5 32 "ServiceRows2" "quiet" "Z", Cond.fieldLink RX5 35 "ServiceRows2" "session" "I", Cond.fieldLink RX5 38 "ServiceRows2" "level" "I"]
def wsL_law_r2 : List Cond := [Cond.fieldLink RX5 41 "ServiceRows2" "bound" "I", Cond.fieldLink RX5 44 "ServiceRows2" "time" "J", Cond.fieldLink RX5 48 "ServiceRows2" "questionTime" "J", Cond.fieldLink RX5 51 "ServiceRows2" "lastCode" "I", Cond.classLink RX5 54 RX2, Cond.instantiable RX2 5, Cond.initialized RX2, Cond.fieldLink RX5 57 "ServiceRows2" "asked" "LServiceRows2$Question;", Cond.fieldLink RX5 61 "ServiceRows2" "block" "LServiceRows2$Question;", Cond.classLink RX5 64 RX0, Cond.instantiable RX0 2, Cond.initialized RX0, Cond.fieldLink RX5 67 "ServiceRows2" "reply" "LServiceRows2$Answer;", Cond.classLink RX5 71 RX4, Cond.instantiable RX4 4, Cond.initialized RX4, Cond.fieldLink RX5 74 "ServiceRows2" "moved" "LServiceRows2$Transfer;", Cond.instanceMethod yX2_init, Cond.code yX2_init cX2_init 1 none, Cond.methodLink RX2 3 objectInit, Cond.arrayClass .byte, Cond.fieldLink RX2 9 "ServiceRows2$Question" "octets" "[B", Cond.fieldLink RX2 15 "ServiceRows2$Question" "isBegun" "Z", Cond.fieldLink RX2 19 "ServiceRows2$Question" "due" "I"]
def wsL_law_r3 : List Cond := [Cond.fieldLink RX2 23 "ServiceRows2$Question" "count" "I", Cond.fieldLink RX2 26 "ServiceRows2$Question" "isToAll" "Z", Cond.instanceMethod yX0_init, Cond.code yX0_init cX0_init 1 none, Cond.methodLink RX0 3 objectInit, Cond.fieldLink RX0 9 "ServiceRows2$Answer" "octets" "[B", Cond.fieldLink RX0 15 "ServiceRows2$Answer" "length" "I", Cond.instanceMethod yX4_init, Cond.code yX4_init cX4_init 1 none, Cond.methodLink RX4 1 objectInit, Cond.fieldLink RX4 7 "ServiceRows2$Transfer" "isOpen" "Z", Cond.fieldLink RX4 13 "ServiceRows2$Transfer" "missing" "I", Cond.fieldLink RX4 17 "ServiceRows2$Transfer" "sum" "I", Cond.fieldLink RX4 20 "ServiceRows2$Transfer" "blocks" "I", Cond.methodLink RL 18 yX6_init, Cond.instanceMethod yX6_init, Cond.code yX6_init cX6_init 1 none, Cond.methodLink RX6 1 objectInit, Cond.fieldLink RX6 7 "ServiceRows2Model" "present" "I", Cond.fieldLink RX6 13 "ServiceRows2Model" "standing" "Z", Cond.fieldLink RX6 17 "ServiceRows2Model" "quiet" "Z", Cond.arrayClass .int, Cond.fieldLink RX6 20 "ServiceRows2Model" "id" "[I", Cond.fieldLink RX6 24 "ServiceRows2Model" "length" "[I"]
def wsL_law_r4 : List Cond := [Cond.fieldLink RX6 27 "ServiceRows2Model" "session" "[I", Cond.fieldLink RX6 30 "ServiceRows2Model" "needs" "[I", Cond.fieldLink RX6 33 "ServiceRows2Model" "own" "[J", Cond.arrayClass .boolean, Cond.fieldLink RX6 37 "ServiceRows2Model" "controlled" "[Z", Cond.fieldLink RX6 41 "ServiceRows2Model" "control" "[J", Cond.fieldLink RX6 44 "ServiceRows2Model" "kept" "[Z", Cond.fieldLink RX6 47 "ServiceRows2Model" "joined" "[Z", Cond.fieldLink RX6 50 "ServiceRows2Model" "partOf" "[I", Cond.fieldLink RX6 53 "ServiceRows2Model" "partAt" "[I", Cond.fieldLink RX6 56 "ServiceRows2Model" "routine" "[I", Cond.fieldLink RX6 59 "ServiceRows2Model" "steps" "[I", Cond.fieldLink RX6 62 "ServiceRows2Model" "started" "[Z", Cond.fieldLink RX6 65 "ServiceRows2Model" "left" "[I", Cond.fieldLink RX6 68 "ServiceRows2Model" "pended" "[I", Cond.fieldLink RX6 71 "ServiceRows2Model" "underRow" "[I", Cond.fieldLink RX6 74 "ServiceRows2Model" "row" "[I", Cond.fieldLink RX6 77 "ServiceRows2Model" "answer" "[I", Cond.fieldLink RX6 80 "ServiceRows2Model" "failed" "I", Cond.methodLink RL 19 yX5_identifier, Cond.instanceMethod yX5_identifier, Cond.selects RX5 yX5_identifier yX5_identifier, Cond.code yX5_identifier cX5_identifier 5 (some .int), Cond.constant RX5 78 (65535)]
def wsL_law_r5 : List Cond := [Cond.instantiable RX1 11, Cond.initialized RX1, Cond.methodLink RX5 79 yX5_isWithin, Cond.static yX5_isWithin, Cond.code yX5_isWithin cX5_isWithin 3 (some .boolean), Cond.methodLink RX5 83 yX5_findIdentifier, Cond.instanceMethod yX5_findIdentifier, Cond.selects RX5 yX5_findIdentifier yX5_findIdentifier, Cond.code yX5_findIdentifier cX5_findIdentifier 4 (some (.object "ServiceRows2$Identifier")), Cond.fieldLink RX5 166 "ServiceRows2$Identifier" "id" "I", Cond.methodLink RX5 87 yX5_hasRoomForIdentifier, Cond.instanceMethod yX5_hasRoomForIdentifier, Cond.selects RX5 yX5_hasRoomForIdentifier yX5_hasRoomForIdentifier, Cond.code yX5_hasRoomForIdentifier cX5_hasRoomForIdentifier 1 (some .boolean), Cond.methodLink RX5 91 yX1_init, Cond.instanceMethod yX1_init, Cond.code yX1_init cX1_init 6 none, Cond.methodLink RX1 3 objectInit, Cond.fieldLink RX1 9 "ServiceRows2$Identifier" "mayBeWritten" "Z", Cond.fieldLink RX1 15 "ServiceRows2$Identifier" "own" "J", Cond.fieldLink RX1 19 "ServiceRows2$Identifier" "isHeld" "Z", Cond.fieldLink RX1 22 "ServiceRows2$Identifier" "held" "J", Cond.fieldLink RX1 25 "ServiceRows2$Identifier" "id" "I", Cond.fieldLink RX1 29 "ServiceRows2$Identifier" "length" "I"]
def wsL_law_r6 : List Cond := [Cond.fieldLink RX1 32 "ServiceRows2$Identifier" "session" "I", Cond.fieldLink RX1 35 "ServiceRows2$Identifier" "level" "I", Cond.fieldLink RX1 38 "ServiceRows2$Identifier" "isTogether" "Z", Cond.classLink RX1 10 RX1, Cond.fieldLink RX1 41 "ServiceRows2$Identifier" "sources" "[LServiceRows2$Identifier;", Cond.fieldLink RX1 45 "ServiceRows2$Identifier" "places" "[I", Cond.methodLink RX5 94 yX5_addIdentifier, Cond.instanceMethod yX5_addIdentifier, Cond.selects RX5 yX5_addIdentifier yX5_addIdentifier, Cond.code yX5_addIdentifier cX5_addIdentifier 2 none, Cond.methodLink RL 23 yX6_identifier, Cond.instanceMethod yX6_identifier, Cond.selects RX6 yX6_identifier yX6_identifier, Cond.code yX6_identifier cX6_identifier 5 (some .int), Cond.fieldLink RX6 83 "ServiceRows2Model" "thrown" "I", Cond.constantLong RX6 89 (65535), Cond.constantLong RX6 95 (8), Cond.constantLong RX6 97 (3), Cond.fieldLink RX6 86 "ServiceRows2Model" "ids" "I", Cond.methodLink RX6 91 yX6_isIn, Cond.static yX6_isIn, Cond.code yX6_isIn cX6_isIn 6 (some .boolean), Cond.methodLink RX6 99 yX6_find, Cond.instanceMethod yX6_find]
def wsL_law_r7 : List Cond := [Cond.selects RX6 yX6_find yX6_find, Cond.code yX6_find cX6_find 3 (some .int), Cond.methodLink RX6 103 yX6_add, Cond.instanceMethod yX6_add, Cond.selects RX6 yX6_add yX6_add, Cond.code yX6_add cX6_add 5 (some .int), Cond.methodLink RL 24 yX5_dynamic, Cond.instanceMethod yX5_dynamic, Cond.selects RX5 yX5_dynamic yX5_dynamic, Cond.code yX5_dynamic cX5_dynamic 6 (some .int), Cond.fieldLink RX5 98 "ServiceRows2$Identifier" "length" "I", Cond.fieldLink RX5 101 "ServiceRows2$Identifier" "isTogether" "Z", Cond.methodLink RX5 104 yX1_append, Cond.instanceMethod yX1_append, Cond.selects RX1 yX1_append yX1_append, Cond.code yX1_append cX1_append 4 none, Cond.methodLink RL 28 yX6_dynamic, Cond.instanceMethod yX6_dynamic, Cond.selects RX6 yX6_dynamic yX6_dynamic, Cond.code yX6_dynamic cX6_dynamic 8 (some .int), Cond.methodLink RL 29 yX5_routine, Cond.instanceMethod yX5_routine, Cond.selects RX5 yX5_routine yX5_routine, Cond.code yX5_routine cX5_routine 3 (some .int)]
def wsL_law_r8 : List Cond := [Cond.instantiable RX3 5, Cond.initialized RX3, Cond.methodLink RX5 108 yX5_findRoutine, Cond.instanceMethod yX5_findRoutine, Cond.selects RX5 yX5_findRoutine yX5_findRoutine, Cond.code yX5_findRoutine cX5_findRoutine 4 (some (.object "ServiceRows2$Routine")), Cond.fieldLink RX5 169 "ServiceRows2$Routine" "id" "I", Cond.methodLink RX5 112 yX3_init, Cond.instanceMethod yX3_init, Cond.code yX3_init cX3_init 3 none, Cond.methodLink RX3 1 objectInit, Cond.fieldLink RX3 7 "ServiceRows2$Routine" "isStarted" "Z", Cond.fieldLink RX3 13 "ServiceRows2$Routine" "left" "I", Cond.fieldLink RX3 17 "ServiceRows2$Routine" "waitsTold" "I", Cond.fieldLink RX3 20 "ServiceRows2$Routine" "id" "I", Cond.fieldLink RX3 23 "ServiceRows2$Routine" "steps" "I", Cond.methodLink RL 33 yX6_routine, Cond.instanceMethod yX6_routine, Cond.selects RX6 yX6_routine yX6_routine, Cond.code yX6_routine cX6_routine 4 (some .int), Cond.constantLong RX6 107 (100), Cond.fieldLink RX6 109 "ServiceRows2Model" "routines" "I", Cond.methodLink RL 34 yX5_condition, Cond.instanceMethod yX5_condition]
def wsL_law_r9 : List Cond := [Cond.selects RX5 yX5_condition yX5_condition, Cond.code yX5_condition cX5_condition 3 (some .int), Cond.methodLink RL 38 yX6_condition, Cond.instanceMethod yX6_condition, Cond.selects RX6 yX6_condition yX6_condition, Cond.code yX6_condition cX6_condition 3 (some .int), Cond.methodLink RL 39 yX5_rights, Cond.instanceMethod yX5_rights, Cond.selects RX5 yX5_rights yX5_rights, Cond.code yX5_rights cX5_rights 3 (some .int), Cond.methodLink RL 43 yX6_rights, Cond.instanceMethod yX6_rights, Cond.selects RX6 yX6_rights yX6_rights, Cond.code yX6_rights cX6_rights 3 (some .int), Cond.fieldLink RX6 112 "ServiceRows2Model" "level" "I", Cond.methodLink RL 46 yX5_control, Cond.instanceMethod yX5_control, Cond.selects RX5 yX5_control yX5_control, Cond.code yX5_control cX5_control 6 (some .int), Cond.fieldLink RX5 115 "ServiceRows2$Identifier" "own" "J", Cond.fieldLink RX5 118 "ServiceRows2$Identifier" "mayBeWritten" "Z", Cond.methodLink RL 50 yX6_control, Cond.instanceMethod yX6_control, Cond.selects RX6 yX6_control yX6_control]
def wsL_law_r10 : List Cond := [Cond.code yX6_control cX6_control 6 (some .int), Cond.methodLink RL 51 yX5_pending, Cond.instanceMethod yX5_pending, Cond.selects RX5 yX5_pending yX5_pending, Cond.code yX5_pending cX5_pending 3 (some .int), Cond.methodLink RL 54 yX6_pending, Cond.instanceMethod yX6_pending, Cond.selects RX6 yX6_pending yX6_pending, Cond.code yX6_pending cX6_pending 3 (some .int), Cond.constantLong RX6 115 (10), Cond.fieldLink RX6 117 "ServiceRows2Model" "bound" "I", Cond.methodLink RL 55 yX5_ask, Cond.instanceMethod yX5_ask, Cond.selects RX5 yX5_ask yX5_ask, Cond.code yX5_ask cX5_ask 2 (some .int), Cond.fieldLink RX5 132 "ServiceRows2$Answer" "length" "I", Cond.methodLink RX5 121 yX2_take, Cond.instanceMethod yX2_take, Cond.selects RX2 yX2_take yX2_take, Cond.code yX2_take cX2_take 2 none, Cond.methodLink RX2 29 Lib.Math.min.name, Cond.static Lib.Math.min.name, Cond.initialized "java/lang/Math", Cond.code Lib.Math.min.name Lib.Math.min.code 2 (some .int)]
def wsL_law_r11 : List Cond := [Cond.methodLink RX5 125 yX2_isWhole, Cond.instanceMethod yX2_isWhole, Cond.selects RX2 yX2_isWhole yX2_isWhole, Cond.code yX2_isWhole cX2_isWhole 1 (some .boolean), Cond.methodLink RX5 128 yX5_conclude, Cond.instanceMethod yX5_conclude, Cond.selects RX5 yX5_conclude yX5_conclude, Cond.code yX5_conclude cX5_conclude 2 none, Cond.fieldLink RX5 184 "ServiceRows2$Question" "isToAll" "Z", Cond.methodLink RX5 177 yX0_clear, Cond.instanceMethod yX0_clear, Cond.selects RX0 yX0_clear yX0_clear, Cond.code yX0_clear cX0_clear 1 none, Cond.methodLink RX5 180 yX5_serve, Cond.instanceMethod yX5_serve, Cond.selects RX5 yX5_serve yX5_serve, Cond.code yX5_serve cX5_serve 2 (some .int), Cond.methodLink RX5 203 yX2_isEmpty, Cond.instanceMethod yX2_isEmpty, Cond.selects RX2 yX2_isEmpty yX2_isEmpty, Cond.code yX2_isEmpty cX2_isEmpty 1 (some .boolean), Cond.methodLink RX5 193 yX2_service, Cond.instanceMethod yX2_service, Cond.selects RX2 yX2_service yX2_service]
def wsL_law_r12 : List Cond := [Cond.code yX2_service cX2_service 1 (some .int), Cond.methodLink RX5 206 yX5_changeSession, Cond.instanceMethod yX5_changeSession, Cond.selects RX5 yX5_changeSession yX5_changeSession, Cond.code yX5_changeSession cX5_changeSession 3 (some .int), Cond.methodLink RX5 236 yX2_size, Cond.instanceMethod yX2_size, Cond.selects RX2 yX2_size yX2_size, Cond.code yX2_size cX2_size 1 (some .int), Cond.methodLink RX5 239 yX2_function, Cond.instanceMethod yX2_function, Cond.selects RX2 yX2_function yX2_function, Cond.code yX2_function cX2_function 1 (some .int), Cond.methodLink RX2 35 yX2_octetAt, Cond.instanceMethod yX2_octetAt, Cond.selects RX2 yX2_octetAt yX2_octetAt, Cond.code yX2_octetAt cX2_octetAt 3 (some .int), Cond.methodLink RX5 158 yX5_endSession, Cond.instanceMethod yX5_endSession, Cond.selects RX5 yX5_endSession yX5_endSession, Cond.code yX5_endSession cX5_endSession 4 none, Cond.methodLink RX5 171 yX1_release, Cond.instanceMethod yX1_release, Cond.selects RX1 yX1_release yX1_release]
def wsL_law_r13 : List Cond := [Cond.code yX1_release cX1_release 1 none, Cond.methodLink RX5 174 yX4_close, Cond.instanceMethod yX4_close, Cond.selects RX4 yX4_close yX4_close, Cond.code yX4_close cX4_close 1 none, Cond.methodLink RX5 242 yX5_beginReply, Cond.instanceMethod yX5_beginReply, Cond.selects RX5 yX5_beginReply yX5_beginReply, Cond.code yX5_beginReply cX5_beginReply 2 none, Cond.methodLink RX5 190 yX0_put, Cond.instanceMethod yX0_put, Cond.selects RX0 yX0_put yX0_put, Cond.code yX0_put cX0_put 2 none, Cond.methodLink RX5 209 yX5_reset, Cond.instanceMethod yX5_reset, Cond.selects RX5 yX5_reset yX5_reset, Cond.code yX5_reset cX5_reset 3 (some .int), Cond.methodLink RX5 245 yX5_forgetRoutines, Cond.instanceMethod yX5_forgetRoutines, Cond.selects RX5 yX5_forgetRoutines yX5_forgetRoutines, Cond.code yX5_forgetRoutines cX5_forgetRoutines 3 none, Cond.methodLink RX5 251 yX3_forget, Cond.instanceMethod yX3_forget, Cond.selects RX3 yX3_forget yX3_forget]
def wsL_law_r14 : List Cond := [Cond.code yX3_forget cX3_forget 1 none, Cond.methodLink RX5 248 yX5_clearOwnValues, Cond.instanceMethod yX5_clearOwnValues, Cond.selects RX5 yX5_clearOwnValues yX5_clearOwnValues, Cond.code yX5_clearOwnValues cX5_clearOwnValues 3 none, Cond.methodLink RX5 212 yX5_read, Cond.instanceMethod yX5_read, Cond.selects RX5 yX5_read yX5_read, Cond.code yX5_read cX5_read 7 (some .int), Cond.fieldLink RX5 261 "ServiceRows2$Identifier" "level" "I", Cond.methodLink RX5 254 yX2_word, Cond.instanceMethod yX2_word, Cond.selects RX2 yX2_word yX2_word, Cond.code yX2_word cX2_word 2 (some .int), Cond.methodLink RX5 258 yX5_findHere, Cond.instanceMethod yX5_findHere, Cond.selects RX5 yX5_findHere yX5_findHere, Cond.code yX5_findHere cX5_findHere 3 (some (.object "ServiceRows2$Identifier")), Cond.fieldLink RX5 170 "ServiceRows2$Identifier" "session" "I", Cond.methodLink RX5 262 yX5_replyOctetsOf, Cond.instanceMethod yX5_replyOctetsOf, Cond.selects RX5 yX5_replyOctetsOf yX5_replyOctetsOf, Cond.code yX5_replyOctetsOf cX5_replyOctetsOf 3 none, Cond.methodLink RX5 265 yX0_putWord]
def wsL_law_r15 : List Cond := [Cond.instanceMethod yX0_putWord, Cond.selects RX0 yX0_putWord yX0_putWord, Cond.code yX0_putWord cX0_putWord 2 none, Cond.methodLink RX0 19 yX0_put, Cond.methodLink RX5 268 yX1_octetAt, Cond.instanceMethod yX1_octetAt, Cond.selects RX1 yX1_octetAt yX1_octetAt, Cond.code yX1_octetAt cX1_octetAt 3 (some .int), Cond.methodLink RX1 49 yX1_ordinaryOctetAt, Cond.instanceMethod yX1_ordinaryOctetAt, Cond.selects RX1 yX1_ordinaryOctetAt yX1_ordinaryOctetAt, Cond.code yX1_ordinaryOctetAt cX1_ordinaryOctetAt 4 (some .int), Cond.methodLink RX5 215 yX5_write, Cond.instanceMethod yX5_write, Cond.selects RX5 yX5_write yX5_write, Cond.code yX5_write cX5_write 4 (some .int), Cond.methodLink RX5 270 yX2_number, Cond.instanceMethod yX2_number, Cond.selects RX2 yX2_number yX2_number, Cond.code yX2_number cX2_number 6 (some .long), Cond.methodLink RX5 218 yX5_takeControl, Cond.instanceMethod yX5_takeControl, Cond.selects RX5 yX5_takeControl yX5_takeControl, Cond.code yX5_takeControl cX5_takeControl 5 (some .int)]
def wsL_law_r16 : List Cond := [Cond.methodLink RX5 273 yX2_octetAt, Cond.methodLink RX5 274 yX5_setControl, Cond.static yX5_setControl, Cond.code yX5_setControl cX5_setControl 3 none, Cond.methodLink RX5 278 yX1_hold, Cond.instanceMethod yX1_hold, Cond.selects RX1 yX1_hold yX1_hold, Cond.code yX1_hold cX1_hold 3 none, Cond.methodLink RX5 162 yX1_number, Cond.instanceMethod yX1_number, Cond.selects RX1 yX1_number yX1_number, Cond.code yX1_number cX1_number 4 (some .long), Cond.methodLink RX1 53 yX1_octetAt, Cond.methodLink RX5 221 yX5_handleRoutine, Cond.instanceMethod yX5_handleRoutine, Cond.selects RX5 yX5_handleRoutine yX5_handleRoutine, Cond.code yX5_handleRoutine cX5_handleRoutine 5 (some .int), Cond.fieldLink RX5 286 "ServiceRows2$Routine" "left" "I", Cond.methodLink RX5 282 yX5_applyToRoutine, Cond.instanceMethod yX5_applyToRoutine, Cond.selects RX5 yX5_applyToRoutine yX5_applyToRoutine, Cond.code yX5_applyToRoutine cX5_applyToRoutine 3 (some .int), Cond.fieldLink RX5 293 "ServiceRows2$Routine" "isStarted" "Z", Cond.methodLink RX5 289 yX5_startRoutine]
def wsL_law_r17 : List Cond := [Cond.instanceMethod yX5_startRoutine, Cond.selects RX5 yX5_startRoutine yX5_startRoutine, Cond.code yX5_startRoutine cX5_startRoutine 2 (some .int), Cond.methodLink RX5 299 yX3_start, Cond.instanceMethod yX3_start, Cond.selects RX3 yX3_start yX3_start, Cond.code yX3_start cX3_start 1 none, Cond.methodLink RX5 296 yX5_askResult, Cond.instanceMethod yX5_askResult, Cond.selects RX5 yX5_askResult yX5_askResult, Cond.code yX5_askResult cX5_askResult 2 (some .int), Cond.fieldLink RX5 302 "ServiceRows2$Routine" "waitsTold" "I", Cond.methodLink RX5 224 yX5_openTransfer, Cond.instanceMethod yX5_openTransfer, Cond.selects RX5 yX5_openTransfer yX5_openTransfer, Cond.code yX5_openTransfer cX5_openTransfer 3 (some .int), Cond.fieldLink RX5 305 "ServiceRows2$Transfer" "isOpen" "Z", Cond.methodLink RX5 308 yX4_open, Cond.instanceMethod yX4_open, Cond.selects RX4 yX4_open yX4_open, Cond.code yX4_open cX4_open 2 none, Cond.methodLink RX5 227 yX5_takeBlock, Cond.instanceMethod yX5_takeBlock, Cond.selects RX5 yX5_takeBlock yX5_takeBlock]
def wsL_law_r18 : List Cond := [Cond.code yX5_takeBlock cX5_takeBlock 4 (some .int), Cond.fieldLink RX5 148 "ServiceRows2$Transfer" "missing" "I", Cond.methodLink RX5 311 yX4_isBlockBefore, Cond.instanceMethod yX4_isBlockBefore, Cond.selects RX4 yX4_isBlockBefore yX4_isBlockBefore, Cond.code yX4_isBlockBefore cX4_isBlockBefore 2 (some .boolean), Cond.methodLink RX5 314 yX4_nextBlock, Cond.instanceMethod yX4_nextBlock, Cond.selects RX4 yX4_nextBlock yX4_nextBlock, Cond.code yX4_nextBlock cX4_nextBlock 1 (some .int), Cond.methodLink RX5 317 yX4_add, Cond.instanceMethod yX4_add, Cond.selects RX4 yX4_add yX4_add, Cond.code yX4_add cX4_add 4 none, Cond.constant RX4 29 (65535), Cond.methodLink RX4 23 yX2_octetAt, Cond.methodLink RX5 230 yX5_closeTransfer, Cond.instanceMethod yX5_closeTransfer, Cond.selects RX5 yX5_closeTransfer yX5_closeTransfer, Cond.code yX5_closeTransfer cX5_closeTransfer 3 (some .int), Cond.fieldLink RX5 321 "ServiceRows2$Transfer" "sum" "I", Cond.methodLink RX5 233 yX5_stayPresent, Cond.instanceMethod yX5_stayPresent, Cond.selects RX5 yX5_stayPresent yX5_stayPresent]
def wsL_law_r19 : List Cond := [Cond.code yX5_stayPresent cX5_stayPresent 2 (some .int), Cond.methodLink RX5 187 yX5_isKeptFromAll, Cond.static yX5_isKeptFromAll, Cond.code yX5_isKeptFromAll cX5_isKeptFromAll 1 (some .boolean), Cond.methodLink RX5 197 yX2_wantsNoAnswer, Cond.instanceMethod yX2_wantsNoAnswer, Cond.selects RX2 yX2_wantsNoAnswer yX2_wantsNoAnswer, Cond.code yX2_wantsNoAnswer cX2_wantsNoAnswer 2 (some .boolean), Cond.methodLink RX2 39 yX2_service, Cond.methodLink RX5 200 yX2_end, Cond.instanceMethod yX2_end, Cond.selects RX2 yX2_end yX2_end, Cond.code yX2_end cX2_end 1 none, Cond.methodLink RL 59 yX6_ask, Cond.instanceMethod yX6_ask, Cond.selects RX6 yX6_ask yX6_ask, Cond.code yX6_ask cX6_ask 4 (some .int), Cond.fieldLink RX6 206 "ServiceRows2Model" "begun" "Z", Cond.fieldLink RX6 209 "ServiceRows2Model" "missing" "I", Cond.fieldLink RX6 212 "ServiceRows2Model" "underAll" "Z", Cond.fieldLink RX6 215 "ServiceRows2Model" "under" "I", Cond.fieldLink RX6 203 "ServiceRows2Model" "all" "Z", Cond.fieldLink RX6 138 "ServiceRows2Model" "many" "I", Cond.methodLink RX6 218 yX6_looked]
def wsL_law_r20 : List Cond := [Cond.instanceMethod yX6_looked, Cond.selects RX6 yX6_looked yX6_looked, Cond.code yX6_looked cX6_looked 4 (some .int), Cond.fieldLink RX6 192 "ServiceRows2Model" "now" "J", Cond.fieldLink RX6 196 "ServiceRows2Model" "asked" "J", Cond.fieldLink RX6 128 "ServiceRows2Model" "answers" "I", Cond.methodLink RX6 199 yX6_served, Cond.instanceMethod yX6_served, Cond.selects RX6 yX6_served yX6_served, Cond.code yX6_served cX6_served 4 (some .int), Cond.fieldLink RX6 135 "ServiceRows2Model" "open" "Z", Cond.constantLong RX6 159 (200), Cond.fieldLink RX6 161 "ServiceRows2Model" "size" "I", Cond.fieldLink RX6 164 "ServiceRows2Model" "taken" "I", Cond.fieldLink RX6 167 "ServiceRows2Model" "sum" "I", Cond.fieldLink RX6 170 "ServiceRows2Model" "hasBlock" "Z", Cond.methodLink RX6 141 yX6_ends, Cond.instanceMethod yX6_ends, Cond.selects RX6 yX6_ends yX6_ends, Cond.code yX6_ends cX6_ends 3 none, Cond.methodLink RX6 131 yX6_say, Cond.instanceMethod yX6_say, Cond.selects RX6 yX6_say yX6_say, Cond.code yX6_say cX6_say 2 none]
def wsL_law_r21 : List Cond := [Cond.methodLink RX6 144 yX6_read, Cond.instanceMethod yX6_read, Cond.selects RX6 yX6_read yX6_read, Cond.code yX6_read cX6_read 7 (some .int), Cond.methodLink RX6 156 yX6_told, Cond.instanceMethod yX6_told, Cond.selects RX6 yX6_told yX6_told, Cond.code yX6_told cX6_told 2 (some .int), Cond.methodLink RX6 180 yX6_isHere, Cond.instanceMethod yX6_isHere, Cond.selects RX6 yX6_isHere yX6_isHere, Cond.code yX6_isHere cX6_isHere 2 (some .boolean), Cond.methodLink RX6 120 yX6_octet, Cond.instanceMethod yX6_octet, Cond.selects RX6 yX6_octet yX6_octet, Cond.code yX6_octet cX6_octet 7 (some .int), Cond.methodLink RX6 147 yX6_write, Cond.instanceMethod yX6_write, Cond.selects RX6 yX6_write yX6_write, Cond.code yX6_write cX6_write 3 (some .int), Cond.methodLink RX6 184 yX6_number, Cond.instanceMethod yX6_number, Cond.selects RX6 yX6_number yX6_number, Cond.code yX6_number cX6_number 6 (some .long)]
def wsL_law_r22 : List Cond := [Cond.methodLink RX6 176 yX6_threeSaid, Cond.instanceMethod yX6_threeSaid, Cond.selects RX6 yX6_threeSaid yX6_threeSaid, Cond.code yX6_threeSaid cX6_threeSaid 4 none, Cond.methodLink RX6 150 yX6_controls, Cond.instanceMethod yX6_controls, Cond.selects RX6 yX6_controls yX6_controls, Cond.code yX6_controls cX6_controls 6 (some .int), Cond.methodLink RX6 124 yX6_valueOf, Cond.instanceMethod yX6_valueOf, Cond.selects RX6 yX6_valueOf yX6_valueOf, Cond.code yX6_valueOf cX6_valueOf 5 (some .long), Cond.methodLink RX6 153 yX6_runs, Cond.instanceMethod yX6_runs, Cond.selects RX6 yX6_runs yX6_runs, Cond.code yX6_runs cX6_runs 5 (some .int), Cond.methodLink RX6 173 yX6_takes, Cond.instanceMethod yX6_takes, Cond.selects RX6 yX6_takes yX6_takes, Cond.code yX6_takes cX6_takes 4 (some .int), Cond.fieldLink RX6 188 "ServiceRows2Model" "block" "I", Cond.constant RX6 191 (65536), Cond.methodLink RL 60 yL_answer, Cond.static yL_answer]
def wsL_law_r23 : List Cond := [Cond.initialized RL, Cond.codeWith yL_answer cL_answer 4 (some .int) [(0, 9, 12, 13)], Cond.methodLink RL 7 yX5_answer, Cond.instanceMethod yX5_answer, Cond.selects RX5 yX5_answer yX5_answer, Cond.code yX5_answer cX5_answer 2 (some .byte), Cond.classLink RX5 137 RJx00060, Cond.instantiable RJx00060 6, Cond.initialized RJx00060, Cond.methodLink RX5 133 yX0_has, Cond.instanceMethod yX0_has, Cond.selects RX0 yX0_has yX0_has, Cond.code yX0_has cX0_has 2 (some .boolean), Cond.methodLink RX5 144 yX0_octetAt, Cond.instanceMethod yX0_octetAt, Cond.selects RX0 yX0_octetAt yX0_octetAt, Cond.code yX0_octetAt cX0_octetAt 2 (some .byte), Cond.methodLink RX0 23 yX0_has, Cond.methodLink RL 65 yX6_answer, Cond.instanceMethod yX6_answer, Cond.selects RX6 yX6_answer yX6_answer, Cond.code yX6_answer cX6_answer 2 (some .byte), Cond.methodLink RL 66 yX6_thrown, Cond.instanceMethod yX6_thrown]
def wsL_law_r24 : List Cond := [Cond.selects RX6 yX6_thrown yX6_thrown, Cond.code yX6_thrown cX6_thrown 1 (some .int), Cond.methodLink RL 70 yX5_code, Cond.instanceMethod yX5_code, Cond.selects RX5 yX5_code yX5_code, Cond.code yX5_code cX5_code 1 (some .int), Cond.methodLink RL 73 yX6_code, Cond.instanceMethod yX6_code, Cond.selects RX6 yX6_code yX6_code, Cond.code yX6_code cX6_code 1 (some .int), Cond.methodLink RL 74 yX5_transfer, Cond.instanceMethod yX5_transfer, Cond.selects RX5 yX5_transfer yX5_transfer, Cond.code yX5_transfer cX5_transfer 4 (some .int), Cond.methodLink RL 78 yX6_transfer, Cond.instanceMethod yX6_transfer, Cond.selects RX6 yX6_transfer yX6_transfer, Cond.code yX6_transfer cX6_transfer 5 (some .int), Cond.methodLink RL 79 yX5_tick, Cond.instanceMethod yX5_tick, Cond.selects RX5 yX5_tick yX5_tick, Cond.code yX5_tick cX5_tick 5 (some .int), Cond.constantLong RX5 151 (1152921504606846976), Cond.constantLong RX5 156 (5000)]
def wsL_law_r25 : List Cond := [Cond.methodLink RX5 153 yX3_step, Cond.instanceMethod yX3_step, Cond.selects RX3 yX3_step yX3_step, Cond.code yX3_step cX3_step 1 none, Cond.methodLink RL 83 yX6_tick, Cond.instanceMethod yX6_tick, Cond.selects RX6 yX6_tick yX6_tick, Cond.code yX6_tick cX6_tick 5 (some .int), Cond.constantLong RX6 221 (1152921504606846976), Cond.constantLong RX6 223 (5000), Cond.methodLink RL 84 yX5_value, Cond.instanceMethod yX5_value, Cond.selects RX5 yX5_value yX5_value, Cond.code yX5_value cX5_value 3 (some .long), Cond.methodLink RL 88 yX6_value, Cond.instanceMethod yX6_value, Cond.selects RX6 yX6_value yX6_value, Cond.code yX6_value cX6_value 3 (some .long)]
def wsL_law : List Cond := (wsL_law_r1 ++ (wsL_law_r2 ++ (wsL_law_r3 ++ (wsL_law_r4 ++ (wsL_law_r5 ++ (wsL_law_r6 ++ (wsL_law_r7 ++ (wsL_law_r8 ++ (wsL_law_r9 ++ (wsL_law_r10 ++ (wsL_law_r11 ++ (wsL_law_r12 ++ (wsL_law_r13 ++ (wsL_law_r14 ++ (wsL_law_r15 ++ (wsL_law_r16 ++ (wsL_law_r17 ++ (wsL_law_r18 ++ (wsL_law_r19 ++ (wsL_law_r20 ++ (wsL_law_r21 ++ (wsL_law_r22 ++ (wsL_law_r23 ++ (wsL_law_r24 ++ wsL_law_r25)))))))))))))))))))))))) ++ wsX50 ++ wsX60 ++ wsX20 ++ wsX00 ++ wsX40 ++ wsX10 ++ wsX30 ++ wsJx000600 ++ ([] : List Cond)
theorem inlX0 : ∀ w ∈ wsX00, w ∈ wsL_law := fun _ h => List.mem_append_left _ (List.mem_append_left _ (List.mem_append_left _ (List.mem_append_left _ (List.mem_append_left _ (List.mem_append_right _ h)))))
theorem inlX1 : ∀ w ∈ wsX10, w ∈ wsL_law := fun _ h => List.mem_append_left _ (List.mem_append_left _ (List.mem_append_left _ (List.mem_append_right _ h)))
theorem inlX2 : ∀ w ∈ wsX20, w ∈ wsL_law := fun _ h => List.mem_append_left _ (List.mem_append_left _ (List.mem_append_left _ (List.mem_append_left _ (List.mem_append_left _ (List.mem_append_left _ (List.mem_append_right _ h))))))
theorem inlX3 : ∀ w ∈ wsX30, w ∈ wsL_law := fun _ h => List.mem_append_left _ (List.mem_append_left _ (List.mem_append_right _ h))
theorem inlX4 : ∀ w ∈ wsX40, w ∈ wsL_law := fun _ h => List.mem_append_left _ (List.mem_append_left _ (List.mem_append_left _ (List.mem_append_left _ (List.mem_append_right _ h))))
theorem inlX5 : ∀ w ∈ wsX50, w ∈ wsL_law := fun _ h => List.mem_append_left _ (List.mem_append_left _ (List.mem_append_left _ (List.mem_append_left _ (List.mem_append_left _ (List.mem_append_left _ (List.mem_append_left _ (List.mem_append_left _ (List.mem_append_right _ h))))))))
theorem inlX6 : ∀ w ∈ wsX60, w ∈ wsL_law := fun _ h => List.mem_append_left _ (List.mem_append_left _ (List.mem_append_left _ (List.mem_append_left _ (List.mem_append_left _ (List.mem_append_left _ (List.mem_append_left _ (List.mem_append_right _ h)))))))
theorem inlJx00060 : ∀ w ∈ wsJx000600, w ∈ wsL_law := fun _ h => List.mem_append_left _ (List.mem_append_right _ h)
abbrev vwCl : List vw_C := [(RJx00060, TJx00060, 6), (RX0, TX0, 2), (RX1, TX1, 11), (RX2, TX2, 5), (RX3, TX3, 5), (RX4, TX4, 4), (RX5, TX5, 16), (RX6, TX6, 43)]
end
section
set_option maxRecDepth 20000 in
theorem wT_1 : ∀ w ∈ wsL_law_r1, w ∈ lw_tbl := fun w h => (goodIn_r wsL_law_r1 [58, 59, 45, 620, 621, 49, 756, 894, 60, 61, 62, 63, 64, 65, 66, 130, 131, 68, 132, 133, 134, 135, 136, 137] (by decide +kernel) (by decide +kernel) w h).1
set_option maxRecDepth 20000 in
theorem wT_2 : ∀ w ∈ wsL_law_r2, w ∈ lw_tbl := fun w h => (goodIn_r wsL_law_r2 [138, 139, 140, 141, 70, 71, 46, 142, 143, 94, 95, 47, 144, 108, 109, 48, 145, 73, 74, 75, 93, 76, 77, 78] (by decide +kernel) (by decide +kernel) w h).1
set_option maxRecDepth 20000 in
theorem wT_3 : ∀ w ∈ wsL_law_r3, w ∈ lw_tbl := fun w h => (goodIn_r wsL_law_r3 [79, 80, 97, 98, 99, 100, 101, 111, 112, 113, 114, 116, 118, 120, 622, 623, 624, 625, 627, 631, 632, 242, 635, 636] (by decide +kernel) (by decide +kernel) w h).1
set_option maxRecDepth 20000 in
theorem wT_4 : ∀ w ∈ wsL_law_r4, w ∈ lw_tbl := fun w h => (goodIn_r wsL_law_r4 [637, 638, 639, 757, 640, 641, 642, 643, 644, 645, 647, 648, 649, 650, 651, 662, 665, 667, 668, 179, 180, 181, 182, 183] (by decide +kernel) (by decide +kernel) w h).1
set_option maxRecDepth 20000 in
theorem wT_5 : ∀ w ∈ wsL_law_r5, w ∈ lw_tbl := fun w h => (goodIn_r wsL_law_r5 [195, 50, 184, 185, 186, 187, 189, 0, 190, 202, 191, 193, 1, 194, 196, 197, 198, 199, 211, 213, 215, 216, 201, 209] (by decide +kernel) (by decide +kernel) w h).1
set_option maxRecDepth 20000 in
theorem wT_6 : ∀ w ∈ wsL_law_r6, w ∈ lw_tbl := fun w h => (goodIn_r wsL_law_r6 [203, 205, 207, 200, 217, 218, 243, 245, 2, 246, 762, 763, 764, 765, 626, 766, 770, 771, 634, 767, 768, 769, 772, 774] (by decide +kernel) (by decide +kernel) w h).1
set_option maxRecDepth 20000 in
theorem wT_7 : ∀ w ∈ wsL_law_r7, w ∈ lw_tbl := fun w h => (goodIn_r wsL_law_r7 [27, 775, 776, 778, 28, 779, 247, 248, 249, 250, 210, 208, 251, 252, 253, 254, 780, 781, 782, 783, 255, 256, 257, 258] (by decide +kernel) (by decide +kernel) w h).1
set_option maxRecDepth 20000 in
theorem wT_8 : ∀ w ∈ wsL_law_r8, w ∈ lw_tbl := fun w h => (goodIn_r wsL_law_r8 [263, 51, 259, 261, 3, 262, 269, 264, 265, 266, 267, 271, 273, 275, 268, 270, 784, 785, 786, 787, 788, 646, 288, 289] (by decide +kernel) (by decide +kernel) w h).1
set_option maxRecDepth 20000 in
theorem wT_9 : ∀ w ∈ wsL_law_r9, w ∈ lw_tbl := fun w h => (goodIn_r wsL_law_r9 [290, 291, 789, 790, 791, 792, 292, 293, 294, 295, 793, 794, 795, 796, 628, 296, 297, 298, 299, 214, 212, 797, 798, 799] (by decide +kernel) (by decide +kernel) w h).1
set_option maxRecDepth 20000 in
theorem wT_10 : ∀ w ∈ wsL_law_r10, w ∈ lw_tbl := fun w h => (goodIn_r wsL_law_r10 [800, 300, 301, 302, 303, 801, 802, 803, 804, 805, 633, 304, 305, 306, 307, 102, 308, 309, 310, 311, 312, 313, 52, 314] (by decide +kernel) (by decide +kernel) w h).1
set_option maxRecDepth 20000 in
theorem wT_11 : ∀ w ∈ wsL_law_r11, w ∈ lw_tbl := fun w h => (goodIn_r wsL_law_r11 [315, 316, 317, 318, 319, 321, 4, 322, 81, 323, 324, 325, 326, 327, 329, 5, 330, 331, 332, 333, 334, 335, 336, 337] (by decide +kernel) (by decide +kernel) w h).1
set_option maxRecDepth 20000 in
theorem wT_12 : ∀ w ∈ wsL_law_r12, w ∈ lw_tbl := fun w h => (goodIn_r wsL_law_r12 [338, 339, 341, 6, 342, 343, 344, 345, 346, 347, 348, 349, 350, 351, 352, 353, 354, 355, 357, 7, 358, 359, 360, 361] (by decide +kernel) (by decide +kernel) w h).1
set_option maxRecDepth 20000 in
theorem wT_13 : ∀ w ∈ wsL_law_r13, w ∈ lw_tbl := fun w h => (goodIn_r wsL_law_r13 [362, 363, 364, 365, 366, 367, 369, 8, 370, 371, 372, 373, 374, 375, 377, 9, 378, 379, 381, 10, 382, 383, 384, 385] (by decide +kernel) (by decide +kernel) w h).1
set_option maxRecDepth 20000 in
theorem wT_14 : ∀ w ∈ wsL_law_r14, w ∈ lw_tbl := fun w h => (goodIn_r wsL_law_r14 [386, 387, 389, 11, 390, 391, 393, 12, 394, 206, 395, 396, 397, 398, 399, 401, 13, 402, 204, 403, 405, 14, 406, 407] (by decide +kernel) (by decide +kernel) w h).1
set_option maxRecDepth 20000 in
theorem wT_15 : ∀ w ∈ wsL_law_r15, w ∈ lw_tbl := fun w h => (goodIn_r wsL_law_r15 [408, 409, 410, 411, 412, 413, 414, 415, 416, 418, 15, 419, 420, 422, 16, 423, 424, 425, 426, 427, 428, 430, 17, 431] (by decide +kernel) (by decide +kernel) w h).1
set_option maxRecDepth 20000 in
theorem wT_16 : ∀ w ∈ wsL_law_r16, w ∈ lw_tbl := fun w h => (goodIn_r wsL_law_r16 [432, 433, 434, 435, 436, 437, 438, 439, 440, 441, 442, 443, 444, 445, 447, 18, 448, 274, 449, 451, 19, 452, 272, 453] (by decide +kernel) (by decide +kernel) w h).1
set_option maxRecDepth 20000 in
theorem wT_17 : ∀ w ∈ wsL_law_r17, w ∈ lw_tbl := fun w h => (goodIn_r wsL_law_r17 [455, 20, 456, 457, 458, 459, 460, 461, 463, 21, 464, 276, 465, 467, 22, 468, 115, 469, 470, 471, 472, 473, 475, 23] (by decide +kernel) (by decide +kernel) w h).1
set_option maxRecDepth 20000 in
theorem wT_18 : ∀ w ∈ wsL_law_r18, w ∈ lw_tbl := fun w h => (goodIn_r wsL_law_r18 [476, 117, 477, 478, 479, 480, 481, 482, 483, 484, 485, 486, 487, 488, 490, 489, 491, 493, 24, 494, 119, 495, 497, 25] (by decide +kernel) (by decide +kernel) w h).1
set_option maxRecDepth 20000 in
theorem wT_19 : ∀ w ∈ wsL_law_r19, w ∈ lw_tbl := fun w h => (goodIn_r wsL_law_r19 [498, 499, 500, 501, 502, 503, 504, 505, 506, 507, 508, 509, 510, 818, 819, 820, 821, 659, 658, 660, 661, 663, 664, 822] (by decide +kernel) (by decide +kernel) w h).1
set_option maxRecDepth 20000 in
theorem wT_20 : ∀ w ∈ wsL_law_r20, w ∈ lw_tbl := fun w h => (goodIn_r wsL_law_r20 [824, 31, 825, 629, 630, 666, 826, 828, 32, 829, 652, 870, 653, 654, 655, 657, 830, 832, 33, 833, 834, 836, 34, 837] (by decide +kernel) (by decide +kernel) w h).1
set_option maxRecDepth 20000 in
theorem wT_21 : ∀ w ∈ wsL_law_r21, w ∈ lw_tbl := fun w h => (goodIn_r wsL_law_r21 [838, 840, 35, 841, 842, 844, 36, 845, 846, 848, 37, 849, 814, 816, 30, 817, 850, 852, 38, 853, 854, 856, 39, 857] (by decide +kernel) (by decide +kernel) w h).1
set_option maxRecDepth 20000 in
theorem wT_22 : ∀ w ∈ wsL_law_r22, w ∈ lw_tbl := fun w h => (goodIn_r wsL_law_r22 [858, 860, 40, 861, 862, 864, 41, 865, 810, 812, 29, 813, 866, 868, 42, 869, 871, 873, 43, 874, 656, 875, 533, 534] (by decide +kernel) (by decide +kernel) w h).1
set_option maxRecDepth 20000 in
theorem wT_23 : ∀ w ∈ wsL_law_r23, w ∈ lw_tbl := fun w h => (goodIn_r wsL_law_r23 [44, 535, 537, 538, 539, 540, 545, 546, 57, 541, 542, 543, 544, 615, 616, 617, 618, 619, 876, 877, 878, 879, 758, 759] (by decide +kernel) (by decide +kernel) w h).1
set_option maxRecDepth 20000 in
theorem wT_24 : ∀ w ∈ wsL_law_r24, w ∈ lw_tbl := fun w h => (goodIn_r wsL_law_r24 [760, 761, 511, 512, 513, 514, 880, 881, 882, 883, 515, 516, 517, 518, 884, 885, 886, 887, 519, 520, 521, 522, 523, 528] (by decide +kernel) (by decide +kernel) w h).1
set_option maxRecDepth 20000 in
theorem wT_25 : ∀ w ∈ wsL_law_r25, w ∈ lw_tbl := fun w h => (goodIn_r wsL_law_r25 [524, 525, 526, 527, 888, 889, 890, 891, 892, 893, 529, 530, 531, 532, 806, 807, 808, 809] (by decide +kernel) (by decide +kernel) w h).1
set_option maxRecDepth 20000 in
theorem wT_X5 : ∀ w ∈ wsX50, w ∈ lw_tbl := fun w h => (goodIn_r wsX50 [146, 148, 150, 152, 154, 156, 158, 160, 162, 164, 166, 168, 170, 172, 174, 176] (by decide +kernel) (by decide +kernel) w h).1
set_option maxRecDepth 20000 in
theorem wT_X6 : ∀ w ∈ wsX60, w ∈ lw_tbl := fun w h => (goodIn_r wsX60 [669, 671, 673, 675, 677, 679, 681, 683, 685, 687, 689, 691, 693, 695, 697, 699, 701, 703, 705, 707, 709, 711, 713, 715, 717, 719, 721, 723, 725, 727, 729, 731, 733, 735, 737, 739, 741, 743, 745, 747, 749, 751, 753] (by decide +kernel) (by decide +kernel) w h).1
set_option maxRecDepth 20000 in
theorem wT_X2 : ∀ w ∈ wsX20, w ∈ lw_tbl := fun w h => (goodIn_r wsX20 [82, 84, 86, 88, 90] (by decide +kernel) (by decide +kernel) w h).1
set_option maxRecDepth 20000 in
theorem wT_X0 : ∀ w ∈ wsX00, w ∈ lw_tbl := fun w h => (goodIn_r wsX00 [103, 105] (by decide +kernel) (by decide +kernel) w h).1
set_option maxRecDepth 20000 in
theorem wT_X4 : ∀ w ∈ wsX40, w ∈ lw_tbl := fun w h => (goodIn_r wsX40 [121, 123, 125, 127] (by decide +kernel) (by decide +kernel) w h).1
set_option maxRecDepth 20000 in
theorem wT_X1 : ∀ w ∈ wsX10, w ∈ lw_tbl := fun w h => (goodIn_r wsX10 [219, 221, 223, 225, 227, 229, 231, 233, 235, 237, 239] (by decide +kernel) (by decide +kernel) w h).1
set_option maxRecDepth 20000 in
theorem wT_X3 : ∀ w ∈ wsX30, w ∈ lw_tbl := fun w h => (goodIn_r wsX30 [277, 279, 281, 283, 285] (by decide +kernel) (by decide +kernel) w h).1
set_option maxRecDepth 20000 in
theorem wT_Jx00060 : ∀ w ∈ wsJx000600, w ∈ lw_tbl := fun w h => (goodIn_r wsJx000600 [558, 560, 562, 564, 566, 611] (by decide +kernel) (by decide +kernel) w h).1
theorem z_ap {big a b : List Cond} (ha : ∀ w ∈ a, w ∈ big) (hb : ∀ w ∈ b, w ∈ big) : ∀ w ∈ a ++ b, w ∈ big := fun w h => (List.mem_append.mp h).elim (ha w) (hb w)
theorem wsL_law_in : ∀ w ∈ wsL_law, w ∈ lw_tbl := (z_ap (z_ap (z_ap (z_ap (z_ap (z_ap (z_ap (z_ap (z_ap (z_ap wT_1 (z_ap wT_2 (z_ap wT_3 (z_ap wT_4 (z_ap wT_5 (z_ap wT_6 (z_ap wT_7 (z_ap wT_8 (z_ap wT_9 (z_ap wT_10 (z_ap wT_11 (z_ap wT_12 (z_ap wT_13 (z_ap wT_14 (z_ap wT_15 (z_ap wT_16 (z_ap wT_17 (z_ap wT_18 (z_ap wT_19 (z_ap wT_20 (z_ap wT_21 (z_ap wT_22 (z_ap wT_23 (z_ap wT_24 wT_25)))))))))))))))))))))))) wT_X5) wT_X6) wT_X2) wT_X0) wT_X4) wT_X1) wT_X3) wT_Jx00060) (fun _ h => absurd h List.not_mem_nil))
end
