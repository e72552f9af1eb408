section
-- ===== PART A: goes FIRST, ahead of the names: the tables' words, and 'selects' of the private methods out of them =====
/-- a private method of a class that the tables say can be made, by its rows of tables_1 -/
def lw_okq (q : MethodName × Nat) : Prop := (q.1.cls ≠ "java/lang/invoke/MethodHandle" ∧ q.1.cls ≠ "java/lang/invoke/VarHandle") ∧ Cond.instantiable q.1.cls q.2 ∈ tables_1 ∧ Cond.privateMethod q.1 ∈ tables_1 ∧ Cond.instanceMethod q.1 ∈ tables_1
theorem lw_p0 : lw_okq (⟨"InSyncLog", "isLeading", "(I)Z"⟩, 7) := ⟨⟨by decide +kernel, by decide +kernel⟩, List.mem_of_getElem? (i := 12) (by decide +kernel), List.mem_of_getElem? (i := 222) (by decide +kernel), List.mem_of_getElem? (i := 223) (by decide +kernel)⟩
theorem lw_p1 : lw_okq (⟨"InSyncLog$Broker", "leads", "()Z"⟩, 12) := ⟨⟨by decide +kernel, by decide +kernel⟩, List.mem_of_getElem? (i := 122) (by decide +kernel), List.mem_of_getElem? (i := 229) (by decide +kernel), List.mem_of_getElem? (i := 230) (by decide +kernel)⟩
theorem lw_p2 : lw_okq (⟨"InSyncLog", "append", "(LInSyncLog$Broker;II)I"⟩, 7) := ⟨⟨by decide +kernel, by decide +kernel⟩, List.mem_of_getElem? (i := 12) (by decide +kernel), List.mem_of_getElem? (i := 233) (by decide +kernel), List.mem_of_getElem? (i := 234) (by decide +kernel)⟩
theorem lw_p3 : lw_okq (⟨"InSyncLog$Log", "isFull", "()Z"⟩, 3) := ⟨⟨by decide +kernel, by decide +kernel⟩, List.mem_of_getElem? (i := 128) (by decide +kernel), List.mem_of_getElem? (i := 237) (by decide +kernel), List.mem_of_getElem? (i := 238) (by decide +kernel)⟩
theorem lw_p4 : lw_okq (⟨"InSyncLog$Log", "add", "(II)V"⟩, 3) := ⟨⟨by decide +kernel, by decide +kernel⟩, List.mem_of_getElem? (i := 128) (by decide +kernel), List.mem_of_getElem? (i := 247) (by decide +kernel), List.mem_of_getElem? (i := 248) (by decide +kernel)⟩
theorem lw_p5 : lw_okq (⟨"InSyncLog$Broker", "raiseHw", "()V"⟩, 12) := ⟨⟨by decide +kernel, by decide +kernel⟩, List.mem_of_getElem? (i := 122) (by decide +kernel), List.mem_of_getElem? (i := 252) (by decide +kernel), List.mem_of_getElem? (i := 253) (by decide +kernel)⟩
theorem lw_p6 : lw_okq (⟨"InSyncLog$Log", "has", "(I)Z"⟩, 3) := ⟨⟨by decide +kernel, by decide +kernel⟩, List.mem_of_getElem? (i := 128) (by decide +kernel), List.mem_of_getElem? (i := 269) (by decide +kernel), List.mem_of_getElem? (i := 270) (by decide +kernel)⟩
theorem lw_p7 : lw_okq (⟨"InSyncLog$Log", "isMark", "(I)Z"⟩, 3) := ⟨⟨by decide +kernel, by decide +kernel⟩, List.mem_of_getElem? (i := 128) (by decide +kernel), List.mem_of_getElem? (i := 273) (by decide +kernel), List.mem_of_getElem? (i := 274) (by decide +kernel)⟩
theorem lw_p8 : lw_okq (⟨"InSyncLog$Log", "stampOf", "(I)I"⟩, 3) := ⟨⟨by decide +kernel, by decide +kernel⟩, List.mem_of_getElem? (i := 128) (by decide +kernel), List.mem_of_getElem? (i := 277) (by decide +kernel), List.mem_of_getElem? (i := 278) (by decide +kernel)⟩
theorem lw_p9 : lw_okq (⟨"InSyncLog$Log", "valueOf", "(I)I"⟩, 3) := ⟨⟨by decide +kernel, by decide +kernel⟩, List.mem_of_getElem? (i := 128) (by decide +kernel), List.mem_of_getElem? (i := 286) (by decide +kernel), List.mem_of_getElem? (i := 287) (by decide +kernel)⟩
theorem lw_p10 : lw_okq (⟨"InSyncLog", "isUp", "(I)Z"⟩, 7) := ⟨⟨by decide +kernel, by decide +kernel⟩, List.mem_of_getElem? (i := 12) (by decide +kernel), List.mem_of_getElem? (i := 294) (by decide +kernel), List.mem_of_getElem? (i := 295) (by decide +kernel)⟩
theorem lw_p11 : lw_okq (⟨"InSyncLog$Log", "lastEpoch", "()I"⟩, 3) := ⟨⟨by decide +kernel, by decide +kernel⟩, List.mem_of_getElem? (i := 128) (by decide +kernel), List.mem_of_getElem? (i := 298) (by decide +kernel), List.mem_of_getElem? (i := 299) (by decide +kernel)⟩
theorem lw_p12 : lw_okq (⟨"InSyncLog$Log", "epochOf", "(I)I"⟩, 3) := ⟨⟨by decide +kernel, by decide +kernel⟩, List.mem_of_getElem? (i := 128) (by decide +kernel), List.mem_of_getElem? (i := 302) (by decide +kernel), List.mem_of_getElem? (i := 303) (by decide +kernel)⟩
theorem lw_p13 : lw_okq (⟨"InSyncLog$Channel", "send", "(ILInSyncLog$Broker;IIII)LInSyncLog$Message;"⟩, 2) := ⟨⟨by decide +kernel, by decide +kernel⟩, List.mem_of_getElem? (i := 51) (by decide +kernel), List.mem_of_getElem? (i := 309) (by decide +kernel), List.mem_of_getElem? (i := 310) (by decide +kernel)⟩
theorem lw_p14 : lw_okq (⟨"InSyncLog$Channel", "take", "(I)LInSyncLog$Message;"⟩, 2) := ⟨⟨by decide +kernel, by decide +kernel⟩, List.mem_of_getElem? (i := 51) (by decide +kernel), List.mem_of_getElem? (i := 317) (by decide +kernel), List.mem_of_getElem? (i := 318) (by decide +kernel)⟩
theorem lw_p15 : lw_okq (⟨"InSyncLog$Channel", "has", "(I)Z"⟩, 2) := ⟨⟨by decide +kernel, by decide +kernel⟩, List.mem_of_getElem? (i := 51) (by decide +kernel), List.mem_of_getElem? (i := 321) (by decide +kernel), List.mem_of_getElem? (i := 322) (by decide +kernel)⟩
def lw_privs_1 : List (MethodName × Nat) := [(⟨"InSyncLog", "isLeading", "(I)Z"⟩, 7), (⟨"InSyncLog$Broker", "leads", "()Z"⟩, 12), (⟨"InSyncLog", "append", "(LInSyncLog$Broker;II)I"⟩, 7), (⟨"InSyncLog$Log", "isFull", "()Z"⟩, 3), (⟨"InSyncLog$Log", "add", "(II)V"⟩, 3), (⟨"InSyncLog$Broker", "raiseHw", "()V"⟩, 12), (⟨"InSyncLog$Log", "has", "(I)Z"⟩, 3), (⟨"InSyncLog$Log", "isMark", "(I)Z"⟩, 3), (⟨"InSyncLog$Log", "stampOf", "(I)I"⟩, 3), (⟨"InSyncLog$Log", "valueOf", "(I)I"⟩, 3), (⟨"InSyncLog", "isUp", "(I)Z"⟩, 7), (⟨"InSyncLog$Log", "lastEpoch", "()I"⟩, 3), (⟨"InSyncLog$Log", "epochOf", "(I)I"⟩, 3), (⟨"InSyncLog$Channel", "send", "(ILInSyncLog$Broker;IIII)LInSyncLog$Message;"⟩, 2), (⟨"InSyncLog$Channel", "take", "(I)LInSyncLog$Message;"⟩, 2), (⟨"InSyncLog$Channel", "has", "(I)Z"⟩, 2)]
theorem lw_r1 : ∀ q ∈ lw_privs_1, lw_okq q := List.forall_mem_cons.mpr ⟨lw_p0, List.forall_mem_cons.mpr ⟨lw_p1, List.forall_mem_cons.mpr ⟨lw_p2, List.forall_mem_cons.mpr ⟨lw_p3, List.forall_mem_cons.mpr ⟨lw_p4, List.forall_mem_cons.mpr ⟨lw_p5, List.forall_mem_cons.mpr ⟨lw_p6, List.forall_mem_cons.mpr ⟨lw_p7, List.forall_mem_cons.mpr ⟨lw_p8, List.forall_mem_cons.mpr ⟨lw_p9, List.forall_mem_cons.mpr ⟨lw_p10, List.forall_mem_cons.mpr ⟨lw_p11, List.forall_mem_cons.mpr ⟨lw_p12, List.forall_mem_cons.mpr ⟨lw_p13, List.forall_mem_cons.mpr ⟨lw_p14, List.forall_mem_cons.mpr ⟨lw_p15, fun _ h => absurd h List.not_mem_nil⟩⟩⟩⟩⟩⟩⟩⟩⟩⟩⟩⟩⟩⟩⟩⟩
theorem lw_p16 : lw_okq (⟨"InSyncLog", "answer", "(LInSyncLog$Broker;LInSyncLog$Message;)V"⟩, 7) := ⟨⟨by decide +kernel, by decide +kernel⟩, List.mem_of_getElem? (i := 12) (by decide +kernel), List.mem_of_getElem? (i := 325) (by decide +kernel), List.mem_of_getElem? (i := 326) (by decide +kernel)⟩
theorem lw_p17 : lw_okq (⟨"InSyncLog$Log", "continues", "(II)Z"⟩, 3) := ⟨⟨by decide +kernel, by decide +kernel⟩, List.mem_of_getElem? (i := 128) (by decide +kernel), List.mem_of_getElem? (i := 329) (by decide +kernel), List.mem_of_getElem? (i := 330) (by decide +kernel)⟩
theorem lw_p18 : lw_okq (⟨"InSyncLog$Broker", "noteFetched", "(III)V"⟩, 12) := ⟨⟨by decide +kernel, by decide +kernel⟩, List.mem_of_getElem? (i := 122) (by decide +kernel), List.mem_of_getElem? (i := 333) (by decide +kernel), List.mem_of_getElem? (i := 334) (by decide +kernel)⟩
theorem lw_p19 : lw_okq (⟨"InSyncLog", "sendBatch", "(LInSyncLog$Broker;LInSyncLog$Message;)V"⟩, 7) := ⟨⟨by decide +kernel, by decide +kernel⟩, List.mem_of_getElem? (i := 12) (by decide +kernel), List.mem_of_getElem? (i := 338) (by decide +kernel), List.mem_of_getElem? (i := 339) (by decide +kernel)⟩
theorem lw_p20 : lw_okq (⟨"InSyncLog$Message", "copyRecords", "(LInSyncLog$Log;I)V"⟩, 9) := ⟨⟨by decide +kernel, by decide +kernel⟩, List.mem_of_getElem? (i := 58) (by decide +kernel), List.mem_of_getElem? (i := 342) (by decide +kernel), List.mem_of_getElem? (i := 343) (by decide +kernel)⟩
theorem lw_p21 : lw_okq (⟨"InSyncLog", "sendCut", "(LInSyncLog$Broker;LInSyncLog$Message;)V"⟩, 7) := ⟨⟨by decide +kernel, by decide +kernel⟩, List.mem_of_getElem? (i := 12) (by decide +kernel), List.mem_of_getElem? (i := 348) (by decide +kernel), List.mem_of_getElem? (i := 349) (by decide +kernel)⟩
theorem lw_p22 : lw_okq (⟨"InSyncLog$Log", "countUpTo", "(I)I"⟩, 3) := ⟨⟨by decide +kernel, by decide +kernel⟩, List.mem_of_getElem? (i := 128) (by decide +kernel), List.mem_of_getElem? (i := 352) (by decide +kernel), List.mem_of_getElem? (i := 353) (by decide +kernel)⟩
theorem lw_p23 : lw_okq (⟨"InSyncLog$Broker", "accept", "(LInSyncLog$Message;)V"⟩, 12) := ⟨⟨by decide +kernel, by decide +kernel⟩, List.mem_of_getElem? (i := 122) (by decide +kernel), List.mem_of_getElem? (i := 357) (by decide +kernel), List.mem_of_getElem? (i := 358) (by decide +kernel)⟩
theorem lw_p24 : lw_okq (⟨"InSyncLog$Broker", "isExpecting", "(LInSyncLog$Message;)Z"⟩, 12) := ⟨⟨by decide +kernel, by decide +kernel⟩, List.mem_of_getElem? (i := 122) (by decide +kernel), List.mem_of_getElem? (i := 361) (by decide +kernel), List.mem_of_getElem? (i := 362) (by decide +kernel)⟩
theorem lw_p25 : lw_okq (⟨"InSyncLog$Log", "cutTo", "(I)V"⟩, 3) := ⟨⟨by decide +kernel, by decide +kernel⟩, List.mem_of_getElem? (i := 128) (by decide +kernel), List.mem_of_getElem? (i := 367) (by decide +kernel), List.mem_of_getElem? (i := 368) (by decide +kernel)⟩
theorem lw_p26 : lw_okq (⟨"InSyncLog$Message", "appendRecords", "(LInSyncLog$Log;)V"⟩, 9) := ⟨⟨by decide +kernel, by decide +kernel⟩, List.mem_of_getElem? (i := 58) (by decide +kernel), List.mem_of_getElem? (i := 372) (by decide +kernel), List.mem_of_getElem? (i := 373) (by decide +kernel)⟩
theorem lw_p27 : lw_okq (⟨"InSyncLog$Message", "word", "(I)I"⟩, 9) := ⟨⟨by decide +kernel, by decide +kernel⟩, List.mem_of_getElem? (i := 58) (by decide +kernel), List.mem_of_getElem? (i := 390) (by decide +kernel), List.mem_of_getElem? (i := 391) (by decide +kernel)⟩
theorem lw_p28 : lw_okq (⟨"InSyncLog$Broker", "replicasInSync", "(II)I"⟩, 12) := ⟨⟨by decide +kernel, by decide +kernel⟩, List.mem_of_getElem? (i := 122) (by decide +kernel), List.mem_of_getElem? (i := 398) (by decide +kernel), List.mem_of_getElem? (i := 399) (by decide +kernel)⟩
theorem lw_p29 : lw_okq (⟨"InSyncLog$Broker", "hasFetchedEnough", "(I)Z"⟩, 12) := ⟨⟨by decide +kernel, by decide +kernel⟩, List.mem_of_getElem? (i := 122) (by decide +kernel), List.mem_of_getElem? (i := 402) (by decide +kernel), List.mem_of_getElem? (i := 403) (by decide +kernel)⟩
theorem lw_p30 : lw_okq (⟨"InSyncLog$Broker", "adopt", "(LInSyncLog$Controller;I)V"⟩, 12) := ⟨⟨by decide +kernel, by decide +kernel⟩, List.mem_of_getElem? (i := 122) (by decide +kernel), List.mem_of_getElem? (i := 410) (by decide +kernel), List.mem_of_getElem? (i := 411) (by decide +kernel)⟩
theorem lw_p31 : lw_okq (⟨"InSyncLog$Broker", "goDown", "()V"⟩, 12) := ⟨⟨by decide +kernel, by decide +kernel⟩, List.mem_of_getElem? (i := 122) (by decide +kernel), List.mem_of_getElem? (i := 418) (by decide +kernel), List.mem_of_getElem? (i := 419) (by decide +kernel)⟩
def lw_privs_2 : List (MethodName × Nat) := [(⟨"InSyncLog", "answer", "(LInSyncLog$Broker;LInSyncLog$Message;)V"⟩, 7), (⟨"InSyncLog$Log", "continues", "(II)Z"⟩, 3), (⟨"InSyncLog$Broker", "noteFetched", "(III)V"⟩, 12), (⟨"InSyncLog", "sendBatch", "(LInSyncLog$Broker;LInSyncLog$Message;)V"⟩, 7), (⟨"InSyncLog$Message", "copyRecords", "(LInSyncLog$Log;I)V"⟩, 9), (⟨"InSyncLog", "sendCut", "(LInSyncLog$Broker;LInSyncLog$Message;)V"⟩, 7), (⟨"InSyncLog$Log", "countUpTo", "(I)I"⟩, 3), (⟨"InSyncLog$Broker", "accept", "(LInSyncLog$Message;)V"⟩, 12), (⟨"InSyncLog$Broker", "isExpecting", "(LInSyncLog$Message;)Z"⟩, 12), (⟨"InSyncLog$Log", "cutTo", "(I)V"⟩, 3), (⟨"InSyncLog$Message", "appendRecords", "(LInSyncLog$Log;)V"⟩, 9), (⟨"InSyncLog$Message", "word", "(I)I"⟩, 9), (⟨"InSyncLog$Broker", "replicasInSync", "(II)I"⟩, 12), (⟨"InSyncLog$Broker", "hasFetchedEnough", "(I)Z"⟩, 12), (⟨"InSyncLog$Broker", "adopt", "(LInSyncLog$Controller;I)V"⟩, 12), (⟨"InSyncLog$Broker", "goDown", "()V"⟩, 12)]
theorem lw_r2 : ∀ q ∈ lw_privs_2, lw_okq q := List.forall_mem_cons.mpr ⟨lw_p16, List.forall_mem_cons.mpr ⟨lw_p17, List.forall_mem_cons.mpr ⟨lw_p18, List.forall_mem_cons.mpr ⟨lw_p19, List.forall_mem_cons.mpr ⟨lw_p20, List.forall_mem_cons.mpr ⟨lw_p21, List.forall_mem_cons.mpr ⟨lw_p22, List.forall_mem_cons.mpr ⟨lw_p23, List.forall_mem_cons.mpr ⟨lw_p24, List.forall_mem_cons.mpr ⟨lw_p25, List.forall_mem_cons.mpr ⟨lw_p26, List.forall_mem_cons.mpr ⟨lw_p27, List.forall_mem_cons.mpr ⟨lw_p28, List.forall_mem_cons.mpr ⟨lw_p29, List.forall_mem_cons.mpr ⟨lw_p30, List.forall_mem_cons.mpr ⟨lw_p31, fun _ h => absurd h List.not_mem_nil⟩⟩⟩⟩⟩⟩⟩⟩⟩⟩⟩⟩⟩⟩⟩⟩
theorem lw_p32 : lw_okq (⟨"InSyncLog$Controller", "reactTo", "(I)Z"⟩, 3) := ⟨⟨by decide +kernel, by decide +kernel⟩, List.mem_of_getElem? (i := 29) (by decide +kernel), List.mem_of_getElem? (i := 431) (by decide +kernel), List.mem_of_getElem? (i := 432) (by decide +kernel)⟩
theorem lw_p33 : lw_okq (⟨"InSyncLog$Controller", "begin", "(II)Z"⟩, 3) := ⟨⟨by decide +kernel, by decide +kernel⟩, List.mem_of_getElem? (i := 29) (by decide +kernel), List.mem_of_getElem? (i := 436) (by decide +kernel), List.mem_of_getElem? (i := 437) (by decide +kernel)⟩
theorem lw_p34 : lw_okq (⟨"InSyncLog$Broker", "fact", "(I)I"⟩, 12) := ⟨⟨by decide +kernel, by decide +kernel⟩, List.mem_of_getElem? (i := 122) (by decide +kernel), List.mem_of_getElem? (i := 455) (by decide +kernel), List.mem_of_getElem? (i := 456) (by decide +kernel)⟩
theorem lw_p35 : lw_okq (⟨"InSyncLogModel", "takeOver", "(I)V"⟩, 34) := ⟨⟨by decide +kernel, by decide +kernel⟩, List.mem_of_getElem? (i := 471) (by decide +kernel), List.mem_of_getElem? (i := 477) (by decide +kernel), List.mem_of_getElem? (i := 478) (by decide +kernel)⟩
theorem lw_p36 : lw_okq (⟨"InSyncLogModel", "leads", "(I)Z"⟩, 34) := ⟨⟨by decide +kernel, by decide +kernel⟩, List.mem_of_getElem? (i := 471) (by decide +kernel), List.mem_of_getElem? (i := 589) (by decide +kernel), List.mem_of_getElem? (i := 590) (by decide +kernel)⟩
theorem lw_p37 : lw_okq (⟨"InSyncLogModel", "append", "(IIZ)I"⟩, 34) := ⟨⟨by decide +kernel, by decide +kernel⟩, List.mem_of_getElem? (i := 471) (by decide +kernel), List.mem_of_getElem? (i := 596) (by decide +kernel), List.mem_of_getElem? (i := 597) (by decide +kernel)⟩
theorem lw_p38 : lw_okq (⟨"InSyncLogModel", "syncSize", "(I)I"⟩, 34) := ⟨⟨by decide +kernel, by decide +kernel⟩, List.mem_of_getElem? (i := 471) (by decide +kernel), List.mem_of_getElem? (i := 600) (by decide +kernel), List.mem_of_getElem? (i := 601) (by decide +kernel)⟩
theorem lw_p39 : lw_okq (⟨"InSyncLogModel", "rise", "(I)V"⟩, 34) := ⟨⟨by decide +kernel, by decide +kernel⟩, List.mem_of_getElem? (i := 471) (by decide +kernel), List.mem_of_getElem? (i := 604) (by decide +kernel), List.mem_of_getElem? (i := 605) (by decide +kernel)⟩
theorem lw_p40 : lw_okq (⟨"InSyncLogModel", "recordAt", "(II)I"⟩, 34) := ⟨⟨by decide +kernel, by decide +kernel⟩, List.mem_of_getElem? (i := 471) (by decide +kernel), List.mem_of_getElem? (i := 616) (by decide +kernel), List.mem_of_getElem? (i := 617) (by decide +kernel)⟩
theorem lw_p41 : lw_okq (⟨"InSyncLogModel", "upTo", "(II)I"⟩, 34) := ⟨⟨by decide +kernel, by decide +kernel⟩, List.mem_of_getElem? (i := 471) (by decide +kernel), List.mem_of_getElem? (i := 620) (by decide +kernel), List.mem_of_getElem? (i := 621) (by decide +kernel)⟩
theorem lw_p42 : lw_okq (⟨"InSyncLogModel", "send", "(IIIIIII)Z"⟩, 34) := ⟨⟨by decide +kernel, by decide +kernel⟩, List.mem_of_getElem? (i := 471) (by decide +kernel), List.mem_of_getElem? (i := 640) (by decide +kernel), List.mem_of_getElem? (i := 641) (by decide +kernel)⟩
theorem lw_p43 : lw_okq (⟨"InSyncLogModel", "isMessage", "(I)Z"⟩, 34) := ⟨⟨by decide +kernel, by decide +kernel⟩, List.mem_of_getElem? (i := 471) (by decide +kernel), List.mem_of_getElem? (i := 648) (by decide +kernel), List.mem_of_getElem? (i := 649) (by decide +kernel)⟩
theorem lw_p44 : lw_okq (⟨"InSyncLogModel", "remove", "(I)V"⟩, 34) := ⟨⟨by decide +kernel, by decide +kernel⟩, List.mem_of_getElem? (i := 471) (by decide +kernel), List.mem_of_getElem? (i := 652) (by decide +kernel), List.mem_of_getElem? (i := 653) (by decide +kernel)⟩
theorem lw_p45 : lw_okq (⟨"InSyncLogModel", "move", "(II)V"⟩, 34) := ⟨⟨by decide +kernel, by decide +kernel⟩, List.mem_of_getElem? (i := 471) (by decide +kernel), List.mem_of_getElem? (i := 656) (by decide +kernel), List.mem_of_getElem? (i := 657) (by decide +kernel)⟩
theorem lw_p46 : lw_okq (⟨"InSyncLogModel", "answer", "(IIII)V"⟩, 34) := ⟨⟨by decide +kernel, by decide +kernel⟩, List.mem_of_getElem? (i := 471) (by decide +kernel), List.mem_of_getElem? (i := 673) (by decide +kernel), List.mem_of_getElem? (i := 674) (by decide +kernel)⟩
theorem lw_p47 : lw_okq (⟨"InSyncLogModel", "underEpoch", "(II)I"⟩, 34) := ⟨⟨by decide +kernel, by decide +kernel⟩, List.mem_of_getElem? (i := 471) (by decide +kernel), List.mem_of_getElem? (i := 677) (by decide +kernel), List.mem_of_getElem? (i := 678) (by decide +kernel)⟩
def lw_privs_3 : List (MethodName × Nat) := [(⟨"InSyncLog$Controller", "reactTo", "(I)Z"⟩, 3), (⟨"InSyncLog$Controller", "begin", "(II)Z"⟩, 3), (⟨"InSyncLog$Broker", "fact", "(I)I"⟩, 12), (⟨"InSyncLogModel", "takeOver", "(I)V"⟩, 34), (⟨"InSyncLogModel", "leads", "(I)Z"⟩, 34), (⟨"InSyncLogModel", "append", "(IIZ)I"⟩, 34), (⟨"InSyncLogModel", "syncSize", "(I)I"⟩, 34), (⟨"InSyncLogModel", "rise", "(I)V"⟩, 34), (⟨"InSyncLogModel", "recordAt", "(II)I"⟩, 34), (⟨"InSyncLogModel", "upTo", "(II)I"⟩, 34), (⟨"InSyncLogModel", "send", "(IIIIIII)Z"⟩, 34), (⟨"InSyncLogModel", "isMessage", "(I)Z"⟩, 34), (⟨"InSyncLogModel", "remove", "(I)V"⟩, 34), (⟨"InSyncLogModel", "move", "(II)V"⟩, 34), (⟨"InSyncLogModel", "answer", "(IIII)V"⟩, 34), (⟨"InSyncLogModel", "underEpoch", "(II)I"⟩, 34)]
theorem lw_r3 : ∀ q ∈ lw_privs_3, lw_okq q := List.forall_mem_cons.mpr ⟨lw_p32, List.forall_mem_cons.mpr ⟨lw_p33, List.forall_mem_cons.mpr ⟨lw_p34, List.forall_mem_cons.mpr ⟨lw_p35, List.forall_mem_cons.mpr ⟨lw_p36, List.forall_mem_cons.mpr ⟨lw_p37, List.forall_mem_cons.mpr ⟨lw_p38, List.forall_mem_cons.mpr ⟨lw_p39, List.forall_mem_cons.mpr ⟨lw_p40, List.forall_mem_cons.mpr ⟨lw_p41, List.forall_mem_cons.mpr ⟨lw_p42, List.forall_mem_cons.mpr ⟨lw_p43, List.forall_mem_cons.mpr ⟨lw_p44, List.forall_mem_cons.mpr ⟨lw_p45, List.forall_mem_cons.mpr ⟨lw_p46, List.forall_mem_cons.mpr ⟨lw_p47, fun _ h => absurd h List.not_mem_nil⟩⟩⟩⟩⟩⟩⟩⟩⟩⟩⟩⟩⟩⟩⟩⟩
theorem lw_p48 : lw_okq (⟨"InSyncLogModel", "cut", "(I)V"⟩, 34) := ⟨⟨by decide +kernel, by decide +kernel⟩, List.mem_of_getElem? (i := 471) (by decide +kernel), List.mem_of_getElem? (i := 681) (by decide +kernel), List.mem_of_getElem? (i := 682) (by decide +kernel)⟩
theorem lw_p49 : lw_okq (⟨"InSyncLogModel", "extend", "(I)V"⟩, 34) := ⟨⟨by decide +kernel, by decide +kernel⟩, List.mem_of_getElem? (i := 471) (by decide +kernel), List.mem_of_getElem? (i := 685) (by decide +kernel), List.mem_of_getElem? (i := 686) (by decide +kernel)⟩
theorem lw_p50 : lw_okq (⟨"InSyncLogModel", "bits", "(ZI)I"⟩, 34) := ⟨⟨by decide +kernel, by decide +kernel⟩, List.mem_of_getElem? (i := 471) (by decide +kernel), List.mem_of_getElem? (i := 693) (by decide +kernel), List.mem_of_getElem? (i := 694) (by decide +kernel)⟩
theorem lw_p51 : lw_okq (⟨"InSyncLogModel", "alive", "(II)Z"⟩, 34) := ⟨⟨by decide +kernel, by decide +kernel⟩, List.mem_of_getElem? (i := 471) (by decide +kernel), List.mem_of_getElem? (i := 713) (by decide +kernel), List.mem_of_getElem? (i := 714) (by decide +kernel)⟩
def lw_privs_4 : List (MethodName × Nat) := [(⟨"InSyncLogModel", "cut", "(I)V"⟩, 34), (⟨"InSyncLogModel", "extend", "(I)V"⟩, 34), (⟨"InSyncLogModel", "bits", "(ZI)I"⟩, 34), (⟨"InSyncLogModel", "alive", "(II)Z"⟩, 34)]
theorem lw_r4 : ∀ q ∈ lw_privs_4, lw_okq q := List.forall_mem_cons.mpr ⟨lw_p48, List.forall_mem_cons.mpr ⟨lw_p49, List.forall_mem_cons.mpr ⟨lw_p50, List.forall_mem_cons.mpr ⟨lw_p51, fun _ h => absurd h List.not_mem_nil⟩⟩⟩⟩
def lw_privs : List (MethodName × Nat) := lw_privs_1 ++ (lw_privs_2 ++ (lw_privs_3 ++ (lw_privs_4)))
def lw_tbl : List Cond := k2_sels lw_privs ++ tables_1
theorem lw_privs_ok : ∀ q ∈ lw_privs, lw_okq q := by
  show ∀ q ∈ lw_privs_1 ++ (lw_privs_2 ++ (lw_privs_3 ++ (lw_privs_4))), lw_okq q
  exact List.forall_mem_append.mpr ⟨lw_r1, List.forall_mem_append.mpr ⟨lw_r2, List.forall_mem_append.mpr ⟨lw_r3, lw_r4⟩⟩⟩
end
section
/-! Words by their places, field tables, decode rows: printed by wip/gen/names.py out of the Statement. -/
def wsBig : List Cond := lw_tbl.filter goodWord
def isNest : Cond → Bool
  | .fieldLinkNest .. => true
  | .methodLinkNest .. => true
  | _ => false
def xnl : List Cond := lw_tbl.filter isNest
def xN (U : State) : Prop := ∀ w ∈ xnl, va_Nw w U
theorem xN.same {u U : State} (h : u.vm = U.vm) (hN : xN u) : xN U := fun w hw => by
  have h1 := (List.mem_filter.mp hw).2
  have h2 := hN w hw
  cases w <;> first | exact va_Nw.same rfl h h2 | (simp [isNest] at h1)
theorem xN.warm {s U : State} (hW : s.WarmedH U.vm) (hN : xN s) : xN U := fun w hw => by
  have h1 := (List.mem_filter.mp hw).2
  have h2 := hN w hw
  cases w <;> first | exact va_Nw.warmF hW h2 | exact va_Nw.warmM hW h2 | (simp [isNest] at h1)
theorem wb1 {w : Cond} (h : w ∈ tables_1_1) (g : goodWord w = true) : w ∈ wsBig := List.mem_filter.mpr ⟨List.mem_append_right _ (List.mem_append_left _ h), g⟩
theorem wn1 {w : Cond} (h : w ∈ tables_1_1) (g : isNest w = true) : w ∈ xnl := List.mem_filter.mpr ⟨List.mem_append_right _ (List.mem_append_left _ h), g⟩
theorem wb2 {w : Cond} (h : w ∈ tables_1_2) (g : goodWord w = true) : w ∈ wsBig := List.mem_filter.mpr ⟨List.mem_append_right _ (List.mem_append_right _ (List.mem_append_left _ h)), g⟩
theorem wn2 {w : Cond} (h : w ∈ tables_1_2) (g : isNest w = true) : w ∈ xnl := List.mem_filter.mpr ⟨List.mem_append_right _ (List.mem_append_right _ (List.mem_append_left _ h)), g⟩
theorem wb3 {w : Cond} (h : w ∈ tables_1_3) (g : goodWord w = true) : w ∈ wsBig := List.mem_filter.mpr ⟨List.mem_append_right _ (List.mem_append_right _ (List.mem_append_right _ (List.mem_append_left _ h))), g⟩
theorem wn3 {w : Cond} (h : w ∈ tables_1_3) (g : isNest w = true) : w ∈ xnl := List.mem_filter.mpr ⟨List.mem_append_right _ (List.mem_append_right _ (List.mem_append_right _ (List.mem_append_left _ h))), g⟩
theorem wb4 {w : Cond} (h : w ∈ tables_1_4) (g : goodWord w = true) : w ∈ wsBig := List.mem_filter.mpr ⟨List.mem_append_right _ (List.mem_append_right _ (List.mem_append_right _ (List.mem_append_right _ h))), g⟩
theorem wn4 {w : Cond} (h : w ∈ tables_1_4) (g : isNest w = true) : w ∈ xnl := List.mem_filter.mpr ⟨List.mem_append_right _ (List.mem_append_right _ (List.mem_append_right _ (List.mem_append_right _ h))), g⟩
theorem wq1 {q : MethodName × Nat} (h : q ∈ lw_privs_1) : Cond.selects q.1.cls q.1 q.1 ∈ wsBig := List.mem_filter.mpr ⟨List.mem_append_left _ (List.mem_map.mpr ⟨q, List.mem_append_left _ h, rfl⟩), rfl⟩
theorem wq2 {q : MethodName × Nat} (h : q ∈ lw_privs_2) : Cond.selects q.1.cls q.1 q.1 ∈ wsBig := List.mem_filter.mpr ⟨List.mem_append_left _ (List.mem_map.mpr ⟨q, List.mem_append_right _ (List.mem_append_left _ h), rfl⟩), rfl⟩
theorem wq3 {q : MethodName × Nat} (h : q ∈ lw_privs_3) : Cond.selects q.1.cls q.1 q.1 ∈ wsBig := List.mem_filter.mpr ⟨List.mem_append_left _ (List.mem_map.mpr ⟨q, List.mem_append_right _ (List.mem_append_right _ (List.mem_append_left _ h)), rfl⟩), rfl⟩
theorem wq4 {q : MethodName × Nat} (h : q ∈ lw_privs_4) : Cond.selects q.1.cls q.1 q.1 ∈ wsBig := List.mem_filter.mpr ⟨List.mem_append_left _ (List.mem_map.mpr ⟨q, List.mem_append_right _ (List.mem_append_right _ (List.mem_append_right _ h)), rfl⟩), rfl⟩
theorem w0 : (Cond.initialized "InSyncLogLaw") ∈ wsBig := wb1 (List.mem_of_getElem? (i := 0) rfl) rfl
theorem w1 : (Cond.initialized "InSyncLog") ∈ wsBig := wb1 (List.mem_of_getElem? (i := 1) rfl) rfl
theorem w2 : (Cond.initialized "java/lang/Math") ∈ wsBig := wb1 (List.mem_of_getElem? (i := 2) rfl) rfl
theorem w3 : (Cond.initialized "InSyncLog$Controller") ∈ wsBig := wb1 (List.mem_of_getElem? (i := 3) rfl) rfl
theorem w4 : (Cond.initialized "InSyncLog$Channel") ∈ wsBig := wb1 (List.mem_of_getElem? (i := 4) rfl) rfl
theorem w5 : (Cond.initialized "InSyncLog$Message") ∈ wsBig := wb1 (List.mem_of_getElem? (i := 5) rfl) rfl
theorem w6 : (Cond.initialized "InSyncLog$Broker") ∈ wsBig := wb1 (List.mem_of_getElem? (i := 6) rfl) rfl
theorem w7 : (Cond.initialized "InSyncLog$Log") ∈ wsBig := wb1 (List.mem_of_getElem? (i := 7) rfl) rfl
theorem w8 : (Cond.initialized "java/util/Arrays") ∈ wsBig := wb1 (List.mem_of_getElem? (i := 8) rfl) rfl
theorem w9 : (Cond.initialized "InSyncLogModel") ∈ wsBig := wb1 (List.mem_of_getElem? (i := 9) rfl) rfl
theorem w10 : (Cond.initialized "java/lang/Integer") ∈ wsBig := wb1 (List.mem_of_getElem? (i := 10) rfl) rfl
theorem w11 : (Cond.classLink "InSyncLogLaw" (7 : Nat) "InSyncLog") ∈ wsBig := wb1 (List.mem_of_getElem? (i := 11) rfl) rfl
theorem w12 : (Cond.instantiable "InSyncLog" (7 : Nat)) ∈ wsBig := wb1 (List.mem_of_getElem? (i := 12) rfl) rfl
theorem w13 : (Cond.methodLink "InSyncLogLaw" (15 : Nat) ({ cls := "InSyncLog", name := "<init>", desc := "(III)V" } : MethodName)) ∈ wsBig := wb1 (List.mem_of_getElem? (i := 13) rfl) rfl
theorem w14 : (Cond.instanceMethod ({ cls := "InSyncLog", name := "<init>", desc := "(III)V" } : MethodName)) ∈ wsBig := wb1 (List.mem_of_getElem? (i := 14) rfl) rfl
theorem w15 : (Cond.code ({ cls := "InSyncLog", name := "<init>", desc := "(III)V" } : MethodName) prog_1_method_1_code (5 : Nat) (Option.none : Option FieldType)) ∈ wsBig := wb1 (List.mem_of_getElem? (i := 15) rfl) rfl
theorem w16 : (Cond.methodLink "InSyncLog" (1 : Nat) ({ cls := "java/lang/Object", name := "<init>", desc := "()V" } : MethodName)) ∈ wsBig := wb1 (List.mem_of_getElem? (i := 16) rfl) rfl
theorem w17 : (Cond.instanceMethod ({ cls := "java/lang/Object", name := "<init>", desc := "()V" } : MethodName)) ∈ wsBig := wb1 (List.mem_of_getElem? (i := 17) rfl) rfl
theorem w18 : (Cond.code ({ cls := "java/lang/Object", name := "<init>", desc := "()V" } : MethodName) object_method_1_code (1 : Nat) (Option.none : Option FieldType)) ∈ wsBig := wb1 (List.mem_of_getElem? (i := 18) rfl) rfl
theorem w19 : (Cond.methodLink "InSyncLog" (7 : Nat) ({ cls := "InSyncLog", name := "nearest", desc := "(III)I" } : MethodName)) ∈ wsBig := wb1 (List.mem_of_getElem? (i := 19) rfl) rfl
theorem w20 : (Cond.static ({ cls := "InSyncLog", name := "nearest", desc := "(III)I" } : MethodName)) ∈ wsBig := wb1 (List.mem_of_getElem? (i := 20) rfl) rfl
theorem w21 : (Cond.code ({ cls := "InSyncLog", name := "nearest", desc := "(III)I" } : MethodName) prog_1_method_21_code (3 : Nat) (Option.some FieldType.int)) ∈ wsBig := wb1 (List.mem_of_getElem? (i := 21) rfl) rfl
theorem w22 : (Cond.methodLink "InSyncLog" (179 : Nat) ({ cls := "java/lang/Math", name := "min", desc := "(II)I" } : MethodName)) ∈ wsBig := wb1 (List.mem_of_getElem? (i := 22) rfl) rfl
theorem w23 : (Cond.static ({ cls := "java/lang/Math", name := "min", desc := "(II)I" } : MethodName)) ∈ wsBig := wb1 (List.mem_of_getElem? (i := 23) rfl) rfl
theorem w24 : (Cond.code ({ cls := "java/lang/Math", name := "min", desc := "(II)I" } : MethodName) prog_10_method_69_code (2 : Nat) (Option.some FieldType.int)) ∈ wsBig := wb1 (List.mem_of_getElem? (i := 24) rfl) rfl
theorem w25 : (Cond.methodLink "InSyncLog" (184 : Nat) ({ cls := "java/lang/Math", name := "max", desc := "(II)I" } : MethodName)) ∈ wsBig := wb1 (List.mem_of_getElem? (i := 25) rfl) rfl
theorem w26 : (Cond.static ({ cls := "java/lang/Math", name := "max", desc := "(II)I" } : MethodName)) ∈ wsBig := wb1 (List.mem_of_getElem? (i := 26) rfl) rfl
theorem w27 : (Cond.code ({ cls := "java/lang/Math", name := "max", desc := "(II)I" } : MethodName) prog_10_method_65_code (2 : Nat) (Option.some FieldType.int)) ∈ wsBig := wb1 (List.mem_of_getElem? (i := 27) rfl) rfl
theorem w28 : (Cond.classLink "InSyncLog" (23 : Nat) "InSyncLog$Controller") ∈ wsBig := wb1 (List.mem_of_getElem? (i := 28) rfl) rfl
theorem w29 : (Cond.instantiable "InSyncLog$Controller" (3 : Nat)) ∈ wsBig := wb1 (List.mem_of_getElem? (i := 29) rfl) rfl
theorem w30 : (Cond.methodLinkNest "InSyncLog" (25 : Nat) ({ cls := "InSyncLog$Controller", name := "<init>", desc := "()V" } : MethodName) "InSyncLog") ∈ xnl := wn1 (List.mem_of_getElem? (i := 30) rfl) rfl
theorem w31 : (Cond.instanceMethod ({ cls := "InSyncLog$Controller", name := "<init>", desc := "()V" } : MethodName)) ∈ wsBig := wb1 (List.mem_of_getElem? (i := 31) rfl) rfl
theorem w32 : (Cond.code ({ cls := "InSyncLog$Controller", name := "<init>", desc := "()V" } : MethodName) prog_4_method_1_code (1 : Nat) (Option.none : Option FieldType)) ∈ wsBig := wb1 (List.mem_of_getElem? (i := 32) rfl) rfl
theorem w33 : (Cond.methodLink "InSyncLog$Controller" (3 : Nat) ({ cls := "java/lang/Object", name := "<init>", desc := "()V" } : MethodName)) ∈ wsBig := wb1 (List.mem_of_getElem? (i := 33) rfl) rfl
theorem w34 : (Cond.fieldLink "InSyncLog$Controller" (9 : Nat) "InSyncLog$Controller" "epoch" "I") ∈ wsBig := wb1 (List.mem_of_getElem? (i := 34) rfl) rfl
theorem w35 : (Cond.fieldLinkNest "InSyncLog$Broker" (67 : Nat) "InSyncLog$Controller" "epoch" "I" "InSyncLog") ∈ xnl := wn1 (List.mem_of_getElem? (i := 35) rfl) rfl
theorem w36 : (Cond.fieldLinkNest "InSyncLog" (135 : Nat) "InSyncLog$Controller" "epoch" "I" "InSyncLog") ∈ xnl := wn1 (List.mem_of_getElem? (i := 36) rfl) rfl
theorem w37 : (Cond.fieldLink "InSyncLog$Controller" (15 : Nat) "InSyncLog$Controller" "leader" "I") ∈ wsBig := wb1 (List.mem_of_getElem? (i := 37) rfl) rfl
theorem w38 : (Cond.fieldLinkNest "InSyncLog$Broker" (70 : Nat) "InSyncLog$Controller" "leader" "I" "InSyncLog") ∈ xnl := wn1 (List.mem_of_getElem? (i := 38) rfl) rfl
theorem w39 : (Cond.fieldLinkNest "InSyncLog" (172 : Nat) "InSyncLog$Controller" "leader" "I" "InSyncLog") ∈ xnl := wn1 (List.mem_of_getElem? (i := 39) rfl) rfl
theorem w40 : (Cond.fieldLink "InSyncLog$Controller" (18 : Nat) "InSyncLog$Controller" "isr" "I") ∈ wsBig := wb1 (List.mem_of_getElem? (i := 40) rfl) rfl
theorem w41 : (Cond.fieldLinkNest "InSyncLog$Broker" (71 : Nat) "InSyncLog$Controller" "isr" "I" "InSyncLog") ∈ xnl := wn1 (List.mem_of_getElem? (i := 41) rfl) rfl
theorem w42 : (Cond.fieldLinkNest "InSyncLog" (143 : Nat) "InSyncLog$Controller" "isr" "I" "InSyncLog") ∈ xnl := wn1 (List.mem_of_getElem? (i := 42) rfl) rfl
theorem w43 : (Cond.lays "InSyncLog$Controller" "InSyncLog$Controller" "epoch" "I") ∈ wsBig := wb1 (List.mem_of_getElem? (i := 43) rfl) rfl
theorem w45 : (Cond.lays "InSyncLog$Controller" "InSyncLog$Controller" "leader" "I") ∈ wsBig := wb1 (List.mem_of_getElem? (i := 45) rfl) rfl
theorem w47 : (Cond.lays "InSyncLog$Controller" "InSyncLog$Controller" "isr" "I") ∈ wsBig := wb1 (List.mem_of_getElem? (i := 47) rfl) rfl
theorem w50 : (Cond.classLink "InSyncLog" (30 : Nat) "InSyncLog$Channel") ∈ wsBig := wb1 (List.mem_of_getElem? (i := 50) rfl) rfl
theorem w51 : (Cond.instantiable "InSyncLog$Channel" (2 : Nat)) ∈ wsBig := wb1 (List.mem_of_getElem? (i := 51) rfl) rfl
theorem w52 : (Cond.methodLinkNest "InSyncLog" (32 : Nat) ({ cls := "InSyncLog$Channel", name := "<init>", desc := "()V" } : MethodName) "InSyncLog") ∈ xnl := wn1 (List.mem_of_getElem? (i := 52) rfl) rfl
theorem w53 : (Cond.instanceMethod ({ cls := "InSyncLog$Channel", name := "<init>", desc := "()V" } : MethodName)) ∈ wsBig := wb1 (List.mem_of_getElem? (i := 53) rfl) rfl
theorem w54 : (Cond.code ({ cls := "InSyncLog$Channel", name := "<init>", desc := "()V" } : MethodName) prog_3_method_1_code (2 : Nat) (Option.none : Option FieldType)) ∈ wsBig := wb1 (List.mem_of_getElem? (i := 54) rfl) rfl
theorem w55 : (Cond.methodLink "InSyncLog$Channel" (3 : Nat) ({ cls := "java/lang/Object", name := "<init>", desc := "()V" } : MethodName)) ∈ wsBig := wb1 (List.mem_of_getElem? (i := 55) rfl) rfl
theorem w56 : (Cond.classLink "InSyncLog$Channel" (9 : Nat) "InSyncLog$Message") ∈ wsBig := wb1 (List.mem_of_getElem? (i := 56) rfl) rfl
theorem w58 : (Cond.instantiable "InSyncLog$Message" (9 : Nat)) ∈ wsBig := wb1 (List.mem_of_getElem? (i := 58) rfl) rfl
theorem w59 : (Cond.methodLinkNest "InSyncLog$Channel" (21 : Nat) ({ cls := "InSyncLog$Message", name := "<init>", desc := "()V" } : MethodName) "InSyncLog") ∈ xnl := wn1 (List.mem_of_getElem? (i := 59) rfl) rfl
theorem w60 : (Cond.instanceMethod ({ cls := "InSyncLog$Message", name := "<init>", desc := "()V" } : MethodName)) ∈ wsBig := wb1 (List.mem_of_getElem? (i := 60) rfl) rfl
theorem w61 : (Cond.code ({ cls := "InSyncLog$Message", name := "<init>", desc := "()V" } : MethodName) prog_6_method_1_code (1 : Nat) (Option.none : Option FieldType)) ∈ wsBig := wb1 (List.mem_of_getElem? (i := 61) rfl) rfl
theorem w62 : (Cond.methodLink "InSyncLog$Message" (3 : Nat) ({ cls := "java/lang/Object", name := "<init>", desc := "()V" } : MethodName)) ∈ wsBig := wb1 (List.mem_of_getElem? (i := 62) rfl) rfl
theorem w63 : (Cond.fieldLink "InSyncLog$Message" (9 : Nat) "InSyncLog$Message" "stamps" "[I") ∈ wsBig := wb1 (List.mem_of_getElem? (i := 63) rfl) rfl
theorem w64 : (Cond.fieldLink "InSyncLog$Message" (15 : Nat) "InSyncLog$Message" "values" "[I") ∈ wsBig := wb1 (List.mem_of_getElem? (i := 64) rfl) rfl
theorem w65 : (Cond.fieldLink "InSyncLog$Message" (18 : Nat) "InSyncLog$Message" "kind" "I") ∈ wsBig := wb1 (List.mem_of_getElem? (i := 65) rfl) rfl
theorem w66 : (Cond.fieldLinkNest "InSyncLog$Channel" (26 : Nat) "InSyncLog$Message" "kind" "I" "InSyncLog") ∈ xnl := wn1 (List.mem_of_getElem? (i := 66) rfl) rfl
theorem w67 : (Cond.fieldLinkNest "InSyncLog" (113 : Nat) "InSyncLog$Message" "kind" "I" "InSyncLog") ∈ xnl := wn1 (List.mem_of_getElem? (i := 67) rfl) rfl
theorem w68 : (Cond.fieldLinkNest "InSyncLog$Broker" (98 : Nat) "InSyncLog$Message" "kind" "I" "InSyncLog") ∈ xnl := wn1 (List.mem_of_getElem? (i := 68) rfl) rfl
theorem w69 : (Cond.fieldLink "InSyncLog$Message" (22 : Nat) "InSyncLog$Message" "from" "I") ∈ wsBig := wb1 (List.mem_of_getElem? (i := 69) rfl) rfl
theorem w70 : (Cond.fieldLinkNest "InSyncLog$Channel" (34 : Nat) "InSyncLog$Message" "from" "I" "InSyncLog") ∈ xnl := wn1 (List.mem_of_getElem? (i := 70) rfl) rfl
theorem w71 : (Cond.fieldLinkNest "InSyncLog" (209 : Nat) "InSyncLog$Message" "from" "I" "InSyncLog") ∈ xnl := wn1 (List.mem_of_getElem? (i := 71) rfl) rfl
theorem w72 : (Cond.fieldLink "InSyncLog$Message" (25 : Nat) "InSyncLog$Message" "to" "I") ∈ wsBig := wb1 (List.mem_of_getElem? (i := 72) rfl) rfl
theorem w73 : (Cond.fieldLinkNest "InSyncLog$Channel" (37 : Nat) "InSyncLog$Message" "to" "I" "InSyncLog") ∈ xnl := wn1 (List.mem_of_getElem? (i := 73) rfl) rfl
theorem w74 : (Cond.fieldLinkNest "InSyncLog" (108 : Nat) "InSyncLog$Message" "to" "I" "InSyncLog") ∈ xnl := wn1 (List.mem_of_getElem? (i := 74) rfl) rfl
theorem w75 : (Cond.fieldLink "InSyncLog$Message" (28 : Nat) "InSyncLog$Message" "epoch" "I") ∈ wsBig := wb1 (List.mem_of_getElem? (i := 75) rfl) rfl
theorem w76 : (Cond.fieldLinkNest "InSyncLog$Channel" (43 : Nat) "InSyncLog$Message" "epoch" "I" "InSyncLog") ∈ xnl := wn1 (List.mem_of_getElem? (i := 76) rfl) rfl
theorem w77 : (Cond.fieldLinkNest "InSyncLog$Broker" (121 : Nat) "InSyncLog$Message" "epoch" "I" "InSyncLog") ∈ xnl := wn1 (List.mem_of_getElem? (i := 77) rfl) rfl
theorem w78 : (Cond.fieldLinkNest "InSyncLog" (199 : Nat) "InSyncLog$Message" "epoch" "I" "InSyncLog") ∈ xnl := wn1 (List.mem_of_getElem? (i := 78) rfl) rfl
theorem w79 : (Cond.fieldLink "InSyncLog$Message" (31 : Nat) "InSyncLog$Message" "number" "I") ∈ wsBig := wb1 (List.mem_of_getElem? (i := 79) rfl) rfl
theorem w80 : (Cond.fieldLinkNest "InSyncLog$Channel" (44 : Nat) "InSyncLog$Message" "number" "I" "InSyncLog") ∈ xnl := wn1 (List.mem_of_getElem? (i := 80) rfl) rfl
theorem w81 : (Cond.fieldLinkNest "InSyncLog$Broker" (122 : Nat) "InSyncLog$Message" "number" "I" "InSyncLog") ∈ xnl := wn1 (List.mem_of_getElem? (i := 81) rfl) rfl
theorem w82 : (Cond.fieldLinkNest "InSyncLog" (225 : Nat) "InSyncLog$Message" "number" "I" "InSyncLog") ∈ xnl := wn1 (List.mem_of_getElem? (i := 82) rfl) rfl
theorem w83 : (Cond.fieldLink "InSyncLog$Message" (34 : Nat) "InSyncLog$Message" "size" "I") ∈ wsBig := wb1 (List.mem_of_getElem? (i := 83) rfl) rfl
theorem w84 : (Cond.fieldLinkNest "InSyncLog$Channel" (47 : Nat) "InSyncLog$Message" "size" "I" "InSyncLog") ∈ xnl := wn1 (List.mem_of_getElem? (i := 84) rfl) rfl
theorem w85 : (Cond.fieldLinkNest "InSyncLog$Broker" (103 : Nat) "InSyncLog$Message" "size" "I" "InSyncLog") ∈ xnl := wn1 (List.mem_of_getElem? (i := 85) rfl) rfl
theorem w86 : (Cond.fieldLinkNest "InSyncLog" (200 : Nat) "InSyncLog$Message" "size" "I" "InSyncLog") ∈ xnl := wn1 (List.mem_of_getElem? (i := 86) rfl) rfl
theorem w87 : (Cond.fieldLink "InSyncLog$Message" (37 : Nat) "InSyncLog$Message" "tail" "I") ∈ wsBig := wb1 (List.mem_of_getElem? (i := 87) rfl) rfl
theorem w88 : (Cond.fieldLinkNest "InSyncLog$Channel" (50 : Nat) "InSyncLog$Message" "tail" "I" "InSyncLog") ∈ xnl := wn1 (List.mem_of_getElem? (i := 88) rfl) rfl
theorem w89 : (Cond.fieldLinkNest "InSyncLog$Broker" (106 : Nat) "InSyncLog$Message" "tail" "I" "InSyncLog") ∈ xnl := wn1 (List.mem_of_getElem? (i := 89) rfl) rfl
theorem w90 : (Cond.fieldLinkNest "InSyncLog" (203 : Nat) "InSyncLog$Message" "tail" "I" "InSyncLog") ∈ xnl := wn1 (List.mem_of_getElem? (i := 90) rfl) rfl
theorem w91 : (Cond.laysFinal "InSyncLog$Message" "InSyncLog$Message" "stamps" "[I") ∈ wsBig := wb1 (List.mem_of_getElem? (i := 91) rfl) rfl
theorem w93 : (Cond.laysFinal "InSyncLog$Message" "InSyncLog$Message" "values" "[I") ∈ wsBig := wb1 (List.mem_of_getElem? (i := 93) rfl) rfl
theorem w95 : (Cond.lays "InSyncLog$Message" "InSyncLog$Message" "kind" "I") ∈ wsBig := wb1 (List.mem_of_getElem? (i := 95) rfl) rfl
theorem w97 : (Cond.lays "InSyncLog$Message" "InSyncLog$Message" "from" "I") ∈ wsBig := wb1 (List.mem_of_getElem? (i := 97) rfl) rfl
theorem w99 : (Cond.lays "InSyncLog$Message" "InSyncLog$Message" "to" "I") ∈ wsBig := wb1 (List.mem_of_getElem? (i := 99) rfl) rfl
theorem w101 : (Cond.lays "InSyncLog$Message" "InSyncLog$Message" "epoch" "I") ∈ wsBig := wb1 (List.mem_of_getElem? (i := 101) rfl) rfl
theorem w103 : (Cond.lays "InSyncLog$Message" "InSyncLog$Message" "number" "I") ∈ wsBig := wb1 (List.mem_of_getElem? (i := 103) rfl) rfl
theorem w105 : (Cond.lays "InSyncLog$Message" "InSyncLog$Message" "size" "I") ∈ wsBig := wb1 (List.mem_of_getElem? (i := 105) rfl) rfl
theorem w107 : (Cond.lays "InSyncLog$Message" "InSyncLog$Message" "tail" "I") ∈ wsBig := wb1 (List.mem_of_getElem? (i := 107) rfl) rfl
theorem w110 : (Cond.arrayClass FieldType.int) ∈ wsBig := wb1 (List.mem_of_getElem? (i := 110) rfl) rfl
theorem w111 : (Cond.fieldLink "InSyncLog$Channel" (11 : Nat) "InSyncLog$Channel" "slots" "[LInSyncLog$Message;") ∈ wsBig := wb1 (List.mem_of_getElem? (i := 111) rfl) rfl
theorem w112 : (Cond.fieldLinkNest "InSyncLog" (128 : Nat) "InSyncLog$Channel" "slots" "[LInSyncLog$Message;" "InSyncLog") ∈ xnl := wn1 (List.mem_of_getElem? (i := 112) rfl) rfl
theorem w113 : (Cond.fieldLink "InSyncLog$Channel" (17 : Nat) "InSyncLog$Channel" "count" "I") ∈ wsBig := wb1 (List.mem_of_getElem? (i := 113) rfl) rfl
theorem w114 : (Cond.fieldLinkNest "InSyncLog" (124 : Nat) "InSyncLog$Channel" "count" "I" "InSyncLog") ∈ xnl := wn1 (List.mem_of_getElem? (i := 114) rfl) rfl
theorem w115 : (Cond.laysFinal "InSyncLog$Channel" "InSyncLog$Channel" "slots" "[LInSyncLog$Message;") ∈ wsBig := wb1 (List.mem_of_getElem? (i := 115) rfl) rfl
theorem w117 : (Cond.lays "InSyncLog$Channel" "InSyncLog$Channel" "count" "I") ∈ wsBig := wb1 (List.mem_of_getElem? (i := 117) rfl) rfl
theorem w120 : (Cond.classLink "InSyncLog" (37 : Nat) "InSyncLog$Broker") ∈ wsBig := wb1 (List.mem_of_getElem? (i := 120) rfl) rfl
theorem w122 : (Cond.instantiable "InSyncLog$Broker" (12 : Nat)) ∈ wsBig := wb1 (List.mem_of_getElem? (i := 122) rfl) rfl
theorem w123 : (Cond.methodLinkNest "InSyncLog" (43 : Nat) ({ cls := "InSyncLog$Broker", name := "<init>", desc := "(I)V" } : MethodName) "InSyncLog") ∈ xnl := wn1 (List.mem_of_getElem? (i := 123) rfl) rfl
theorem w124 : (Cond.instanceMethod ({ cls := "InSyncLog$Broker", name := "<init>", desc := "(I)V" } : MethodName)) ∈ wsBig := wb1 (List.mem_of_getElem? (i := 124) rfl) rfl
theorem w125 : (Cond.code ({ cls := "InSyncLog$Broker", name := "<init>", desc := "(I)V" } : MethodName) prog_2_method_1_code (2 : Nat) (Option.none : Option FieldType)) ∈ wsBig := wb1 (List.mem_of_getElem? (i := 125) rfl) rfl
theorem w126 : (Cond.methodLink "InSyncLog$Broker" (3 : Nat) ({ cls := "java/lang/Object", name := "<init>", desc := "()V" } : MethodName)) ∈ wsBig := wb1 (List.mem_of_getElem? (i := 126) rfl) rfl
theorem w127 : (Cond.classLink "InSyncLog$Broker" (9 : Nat) "InSyncLog$Log") ∈ wsBig := wb1 (List.mem_of_getElem? (i := 127) rfl) rfl
theorem w128 : (Cond.instantiable "InSyncLog$Log" (3 : Nat)) ∈ wsBig := wb1 (List.mem_of_getElem? (i := 128) rfl) rfl
theorem w129 : (Cond.methodLinkNest "InSyncLog$Broker" (11 : Nat) ({ cls := "InSyncLog$Log", name := "<init>", desc := "()V" } : MethodName) "InSyncLog") ∈ xnl := wn1 (List.mem_of_getElem? (i := 129) rfl) rfl
theorem w130 : (Cond.instanceMethod ({ cls := "InSyncLog$Log", name := "<init>", desc := "()V" } : MethodName)) ∈ wsBig := wb1 (List.mem_of_getElem? (i := 130) rfl) rfl
theorem w131 : (Cond.code ({ cls := "InSyncLog$Log", name := "<init>", desc := "()V" } : MethodName) prog_5_method_1_code (1 : Nat) (Option.none : Option FieldType)) ∈ wsBig := wb1 (List.mem_of_getElem? (i := 131) rfl) rfl
theorem w132 : (Cond.methodLink "InSyncLog$Log" (3 : Nat) ({ cls := "java/lang/Object", name := "<init>", desc := "()V" } : MethodName)) ∈ wsBig := wb1 (List.mem_of_getElem? (i := 132) rfl) rfl
theorem w133 : (Cond.fieldLink "InSyncLog$Log" (9 : Nat) "InSyncLog$Log" "stamps" "[I") ∈ wsBig := wb1 (List.mem_of_getElem? (i := 133) rfl) rfl
theorem w134 : (Cond.fieldLink "InSyncLog$Log" (15 : Nat) "InSyncLog$Log" "values" "[I") ∈ wsBig := wb1 (List.mem_of_getElem? (i := 134) rfl) rfl
theorem w135 : (Cond.fieldLink "InSyncLog$Log" (18 : Nat) "InSyncLog$Log" "end" "I") ∈ wsBig := wb1 (List.mem_of_getElem? (i := 135) rfl) rfl
theorem w136 : (Cond.fieldLinkNest "InSyncLog$Broker" (64 : Nat) "InSyncLog$Log" "end" "I" "InSyncLog") ∈ xnl := wn1 (List.mem_of_getElem? (i := 136) rfl) rfl
theorem w137 : (Cond.fieldLinkNest "InSyncLog" (93 : Nat) "InSyncLog$Log" "end" "I" "InSyncLog") ∈ xnl := wn1 (List.mem_of_getElem? (i := 137) rfl) rfl
theorem w138 : (Cond.laysFinal "InSyncLog$Log" "InSyncLog$Log" "stamps" "[I") ∈ wsBig := wb1 (List.mem_of_getElem? (i := 138) rfl) rfl
theorem w140 : (Cond.laysFinal "InSyncLog$Log" "InSyncLog$Log" "values" "[I") ∈ wsBig := wb1 (List.mem_of_getElem? (i := 140) rfl) rfl
theorem w142 : (Cond.lays "InSyncLog$Log" "InSyncLog$Log" "end" "I") ∈ wsBig := wb1 (List.mem_of_getElem? (i := 142) rfl) rfl
theorem w145 : (Cond.methodLink "InSyncLog$Broker" (54 : Nat) ({ cls := "java/util/Arrays", name := "fill", desc := "([II)V" } : MethodName)) ∈ wsBig := wb1 (List.mem_of_getElem? (i := 145) rfl) rfl
theorem w146 : (Cond.static ({ cls := "java/util/Arrays", name := "fill", desc := "([II)V" } : MethodName)) ∈ wsBig := wb1 (List.mem_of_getElem? (i := 146) rfl) rfl
theorem w147 : (Cond.code ({ cls := "java/util/Arrays", name := "fill", desc := "([II)V" } : MethodName) prog_11_method_103_code (4 : Nat) (Option.none : Option FieldType)) ∈ wsBig := wb1 (List.mem_of_getElem? (i := 147) rfl) rfl
theorem w148 : (Cond.fieldLink "InSyncLog$Broker" (51 : Nat) "InSyncLog$Broker" "id" "I") ∈ wsBig := wb1 (List.mem_of_getElem? (i := 148) rfl) rfl
theorem w149 : (Cond.fieldLinkNest "InSyncLog$Channel" (29 : Nat) "InSyncLog$Broker" "id" "I" "InSyncLog") ∈ xnl := wn1 (List.mem_of_getElem? (i := 149) rfl) rfl
theorem w150 : (Cond.fieldLink "InSyncLog$Broker" (12 : Nat) "InSyncLog$Broker" "log" "LInSyncLog$Log;") ∈ wsBig := wb1 (List.mem_of_getElem? (i := 150) rfl) rfl
theorem w151 : (Cond.fieldLinkNest "InSyncLog" (60 : Nat) "InSyncLog$Broker" "log" "LInSyncLog$Log;" "InSyncLog") ∈ xnl := wn1 (List.mem_of_getElem? (i := 151) rfl) rfl
theorem w152 : (Cond.fieldLink "InSyncLog$Broker" (18 : Nat) "InSyncLog$Broker" "fetched" "[I") ∈ wsBig := wb1 (List.mem_of_getElem? (i := 152) rfl) rfl
theorem w153 : (Cond.fieldLink "InSyncLog$Broker" (22 : Nat) "InSyncLog$Broker" "caughtUp" "[I") ∈ wsBig := wb1 (List.mem_of_getElem? (i := 153) rfl) rfl
theorem w154 : (Cond.fieldLink "InSyncLog$Broker" (25 : Nat) "InSyncLog$Broker" "up" "Z") ∈ wsBig := wb1 (List.mem_of_getElem? (i := 154) rfl) rfl
theorem w155 : (Cond.fieldLinkNest "InSyncLog" (162 : Nat) "InSyncLog$Broker" "up" "Z" "InSyncLog") ∈ xnl := wn1 (List.mem_of_getElem? (i := 155) rfl) rfl
theorem w156 : (Cond.fieldLink "InSyncLog$Broker" (29 : Nat) "InSyncLog$Broker" "epoch" "I") ∈ wsBig := wb1 (List.mem_of_getElem? (i := 156) rfl) rfl
theorem w157 : (Cond.fieldLinkNest "InSyncLog" (50 : Nat) "InSyncLog$Broker" "epoch" "I" "InSyncLog") ∈ xnl := wn1 (List.mem_of_getElem? (i := 157) rfl) rfl
theorem w158 : (Cond.fieldLinkNest "InSyncLog$Channel" (40 : Nat) "InSyncLog$Broker" "epoch" "I" "InSyncLog") ∈ xnl := wn1 (List.mem_of_getElem? (i := 158) rfl) rfl
theorem w159 : (Cond.fieldLink "InSyncLog$Broker" (33 : Nat) "InSyncLog$Broker" "leader" "I") ∈ wsBig := wb1 (List.mem_of_getElem? (i := 159) rfl) rfl
theorem w160 : (Cond.fieldLinkNest "InSyncLog" (83 : Nat) "InSyncLog$Broker" "leader" "I" "InSyncLog") ∈ xnl := wn1 (List.mem_of_getElem? (i := 160) rfl) rfl
theorem w161 : (Cond.fieldLink "InSyncLog$Broker" (36 : Nat) "InSyncLog$Broker" "hw" "I") ∈ wsBig := wb1 (List.mem_of_getElem? (i := 161) rfl) rfl
theorem w162 : (Cond.fieldLinkNest "InSyncLog" (57 : Nat) "InSyncLog$Broker" "hw" "I" "InSyncLog") ∈ xnl := wn1 (List.mem_of_getElem? (i := 162) rfl) rfl
theorem w163 : (Cond.fieldLink "InSyncLog$Broker" (39 : Nat) "InSyncLog$Broker" "fetches" "I") ∈ wsBig := wb1 (List.mem_of_getElem? (i := 163) rfl) rfl
theorem w164 : (Cond.fieldLinkNest "InSyncLog" (86 : Nat) "InSyncLog$Broker" "fetches" "I" "InSyncLog") ∈ xnl := wn1 (List.mem_of_getElem? (i := 164) rfl) rfl
theorem w165 : (Cond.fieldLink "InSyncLog$Broker" (42 : Nat) "InSyncLog$Broker" "awaits" "Z") ∈ wsBig := wb1 (List.mem_of_getElem? (i := 165) rfl) rfl
theorem w166 : (Cond.fieldLinkNest "InSyncLog" (89 : Nat) "InSyncLog$Broker" "awaits" "Z" "InSyncLog") ∈ xnl := wn1 (List.mem_of_getElem? (i := 166) rfl) rfl
theorem w167 : (Cond.fieldLink "InSyncLog$Broker" (45 : Nat) "InSyncLog$Broker" "start" "I") ∈ wsBig := wb1 (List.mem_of_getElem? (i := 167) rfl) rfl
theorem w168 : (Cond.fieldLink "InSyncLog$Broker" (48 : Nat) "InSyncLog$Broker" "sync" "I") ∈ wsBig := wb1 (List.mem_of_getElem? (i := 168) rfl) rfl
theorem w169 : (Cond.fieldLinkNest "InSyncLog" (146 : Nat) "InSyncLog$Broker" "sync" "I" "InSyncLog") ∈ xnl := wn1 (List.mem_of_getElem? (i := 169) rfl) rfl
theorem w170 : (Cond.laysFinal "InSyncLog$Broker" "InSyncLog$Broker" "id" "I") ∈ wsBig := wb1 (List.mem_of_getElem? (i := 170) rfl) rfl
theorem w172 : (Cond.laysFinal "InSyncLog$Broker" "InSyncLog$Broker" "log" "LInSyncLog$Log;") ∈ wsBig := wb1 (List.mem_of_getElem? (i := 172) rfl) rfl
theorem w174 : (Cond.laysFinal "InSyncLog$Broker" "InSyncLog$Broker" "fetched" "[I") ∈ wsBig := wb1 (List.mem_of_getElem? (i := 174) rfl) rfl
theorem w176 : (Cond.laysFinal "InSyncLog$Broker" "InSyncLog$Broker" "caughtUp" "[I") ∈ wsBig := wb1 (List.mem_of_getElem? (i := 176) rfl) rfl
theorem w178 : (Cond.lays "InSyncLog$Broker" "InSyncLog$Broker" "up" "Z") ∈ wsBig := wb1 (List.mem_of_getElem? (i := 178) rfl) rfl
theorem w180 : (Cond.lays "InSyncLog$Broker" "InSyncLog$Broker" "epoch" "I") ∈ wsBig := wb1 (List.mem_of_getElem? (i := 180) rfl) rfl
theorem w182 : (Cond.lays "InSyncLog$Broker" "InSyncLog$Broker" "leader" "I") ∈ wsBig := wb1 (List.mem_of_getElem? (i := 182) rfl) rfl
theorem w184 : (Cond.lays "InSyncLog$Broker" "InSyncLog$Broker" "hw" "I") ∈ wsBig := wb1 (List.mem_of_getElem? (i := 184) rfl) rfl
theorem w186 : (Cond.lays "InSyncLog$Broker" "InSyncLog$Broker" "fetches" "I") ∈ wsBig := wb1 (List.mem_of_getElem? (i := 186) rfl) rfl
theorem w188 : (Cond.lays "InSyncLog$Broker" "InSyncLog$Broker" "awaits" "Z") ∈ wsBig := wb1 (List.mem_of_getElem? (i := 188) rfl) rfl
theorem w190 : (Cond.lays "InSyncLog$Broker" "InSyncLog$Broker" "start" "I") ∈ wsBig := wb1 (List.mem_of_getElem? (i := 190) rfl) rfl
theorem w192 : (Cond.lays "InSyncLog$Broker" "InSyncLog$Broker" "sync" "I") ∈ wsBig := wb1 (List.mem_of_getElem? (i := 192) rfl) rfl
theorem w195 : (Cond.fieldLink "InSyncLog" (13 : Nat) "InSyncLog" "lag" "I") ∈ wsBig := wb1 (List.mem_of_getElem? (i := 195) rfl) rfl
theorem w196 : (Cond.fieldLink "InSyncLog" (17 : Nat) "InSyncLog" "batch" "I") ∈ wsBig := wb1 (List.mem_of_getElem? (i := 196) rfl) rfl
theorem w197 : (Cond.fieldLink "InSyncLog" (20 : Nat) "InSyncLog" "least" "I") ∈ wsBig := wb1 (List.mem_of_getElem? (i := 197) rfl) rfl
theorem w198 : (Cond.fieldLink "InSyncLog" (39 : Nat) "InSyncLog" "brokers" "[LInSyncLog$Broker;") ∈ wsBig := wb1 (List.mem_of_getElem? (i := 198) rfl) rfl
theorem w199 : (Cond.fieldLink "InSyncLog" (26 : Nat) "InSyncLog" "control" "LInSyncLog$Controller;") ∈ wsBig := wb1 (List.mem_of_getElem? (i := 199) rfl) rfl
theorem w200 : (Cond.fieldLink "InSyncLog" (33 : Nat) "InSyncLog" "channel" "LInSyncLog$Channel;") ∈ wsBig := wb1 (List.mem_of_getElem? (i := 200) rfl) rfl
theorem w201 : (Cond.fieldLink "InSyncLog" (136 : Nat) "InSyncLog" "time" "I") ∈ wsBig := wb1 (List.mem_of_getElem? (i := 201) rfl) rfl
theorem w202 : (Cond.laysFinal "InSyncLog" "InSyncLog" "lag" "I") ∈ wsBig := wb1 (List.mem_of_getElem? (i := 202) rfl) rfl
theorem w204 : (Cond.laysFinal "InSyncLog" "InSyncLog" "batch" "I") ∈ wsBig := wb1 (List.mem_of_getElem? (i := 204) rfl) rfl
theorem w206 : (Cond.laysFinal "InSyncLog" "InSyncLog" "least" "I") ∈ wsBig := wb1 (List.mem_of_getElem? (i := 206) rfl) rfl
theorem w208 : (Cond.laysFinal "InSyncLog" "InSyncLog" "brokers" "[LInSyncLog$Broker;") ∈ wsBig := wb1 (List.mem_of_getElem? (i := 208) rfl) rfl
theorem w210 : (Cond.laysFinal "InSyncLog" "InSyncLog" "control" "LInSyncLog$Controller;") ∈ wsBig := wb1 (List.mem_of_getElem? (i := 210) rfl) rfl
theorem w212 : (Cond.laysFinal "InSyncLog" "InSyncLog" "channel" "LInSyncLog$Channel;") ∈ wsBig := wb1 (List.mem_of_getElem? (i := 212) rfl) rfl
theorem w214 : (Cond.lays "InSyncLog" "InSyncLog" "time" "I") ∈ wsBig := wb1 (List.mem_of_getElem? (i := 214) rfl) rfl
theorem w217 : (Cond.methodLink "InSyncLogLaw" (21 : Nat) ({ cls := "InSyncLog", name := "produce", desc := "(II)I" } : MethodName)) ∈ wsBig := wb1 (List.mem_of_getElem? (i := 217) rfl) rfl
theorem w218 : (Cond.instanceMethod ({ cls := "InSyncLog", name := "produce", desc := "(II)I" } : MethodName)) ∈ wsBig := wb1 (List.mem_of_getElem? (i := 218) rfl) rfl
theorem w219 : (Cond.selects "InSyncLog" ({ cls := "InSyncLog", name := "produce", desc := "(II)I" } : MethodName) ({ cls := "InSyncLog", name := "produce", desc := "(II)I" } : MethodName)) ∈ wsBig := wb1 (List.mem_of_getElem? (i := 219) rfl) rfl
theorem w220 : (Cond.code ({ cls := "InSyncLog", name := "produce", desc := "(II)I" } : MethodName) prog_1_method_2_code (3 : Nat) (Option.some FieldType.int)) ∈ wsBig := wb1 (List.mem_of_getElem? (i := 220) rfl) rfl
theorem w221 : (Cond.methodLink "InSyncLog" (46 : Nat) ({ cls := "InSyncLog", name := "isLeading", desc := "(I)Z" } : MethodName)) ∈ wsBig := wb1 (List.mem_of_getElem? (i := 221) rfl) rfl
theorem w223 : (Cond.instanceMethod ({ cls := "InSyncLog", name := "isLeading", desc := "(I)Z" } : MethodName)) ∈ wsBig := wb1 (List.mem_of_getElem? (i := 223) rfl) rfl
theorem w224 : (Cond.code ({ cls := "InSyncLog", name := "isLeading", desc := "(I)Z" } : MethodName) prog_1_method_26_code (2 : Nat) (Option.some FieldType.boolean)) ∈ wsBig := wb1 (List.mem_of_getElem? (i := 224) rfl) rfl
theorem w225 : (Cond.methodLink "InSyncLog" (159 : Nat) ({ cls := "InSyncLog", name := "isBroker", desc := "(I)Z" } : MethodName)) ∈ wsBig := wb1 (List.mem_of_getElem? (i := 225) rfl) rfl
theorem w226 : (Cond.static ({ cls := "InSyncLog", name := "isBroker", desc := "(I)Z" } : MethodName)) ∈ wsBig := wb1 (List.mem_of_getElem? (i := 226) rfl) rfl
theorem w227 : (Cond.code ({ cls := "InSyncLog", name := "isBroker", desc := "(I)Z" } : MethodName) prog_1_method_22_code (1 : Nat) (Option.some FieldType.boolean)) ∈ wsBig := wb1 (List.mem_of_getElem? (i := 227) rfl) rfl
theorem w228 : (Cond.methodLinkNest "InSyncLog" (79 : Nat) ({ cls := "InSyncLog$Broker", name := "leads", desc := "()Z" } : MethodName) "InSyncLog") ∈ xnl := wn1 (List.mem_of_getElem? (i := 228) rfl) rfl
theorem w230 : (Cond.instanceMethod ({ cls := "InSyncLog$Broker", name := "leads", desc := "()Z" } : MethodName)) ∈ wsBig := wb1 (List.mem_of_getElem? (i := 230) rfl) rfl
theorem w231 : (Cond.code ({ cls := "InSyncLog$Broker", name := "leads", desc := "()Z" } : MethodName) prog_2_method_2_code (1 : Nat) (Option.some FieldType.boolean)) ∈ wsBig := wb1 (List.mem_of_getElem? (i := 231) rfl) rfl
theorem w232 : (Cond.methodLink "InSyncLog" (53 : Nat) ({ cls := "InSyncLog", name := "append", desc := "(LInSyncLog$Broker;II)I" } : MethodName)) ∈ wsBig := wb1 (List.mem_of_getElem? (i := 232) rfl) rfl
theorem w234 : (Cond.instanceMethod ({ cls := "InSyncLog", name := "append", desc := "(LInSyncLog$Broker;II)I" } : MethodName)) ∈ wsBig := wb1 (List.mem_of_getElem? (i := 234) rfl) rfl
theorem w235 : (Cond.code ({ cls := "InSyncLog", name := "append", desc := "(LInSyncLog$Broker;II)I" } : MethodName) prog_1_method_27_code (4 : Nat) (Option.some FieldType.int)) ∈ wsBig := wb1 (List.mem_of_getElem? (i := 235) rfl) rfl
theorem w236 : (Cond.methodLinkNest "InSyncLog" (187 : Nat) ({ cls := "InSyncLog$Log", name := "isFull", desc := "()Z" } : MethodName) "InSyncLog") ∈ xnl := wn1 (List.mem_of_getElem? (i := 236) rfl) rfl
theorem w238 : (Cond.instanceMethod ({ cls := "InSyncLog$Log", name := "isFull", desc := "()Z" } : MethodName)) ∈ wsBig := wb1 (List.mem_of_getElem? (i := 238) rfl) rfl
theorem w239 : (Cond.code ({ cls := "InSyncLog$Log", name := "isFull", desc := "()Z" } : MethodName) prog_5_method_3_code (1 : Nat) (Option.some FieldType.boolean)) ∈ wsBig := wb1 (List.mem_of_getElem? (i := 239) rfl) rfl
theorem w240 : (Cond.methodLink "InSyncLog" (190 : Nat) ({ cls := "java/lang/Integer", name := "bitCount", desc := "(I)I" } : MethodName)) ∈ wsBig := wb2 (List.mem_of_getElem? (i := 0) rfl) rfl
theorem w241 : (Cond.static ({ cls := "java/lang/Integer", name := "bitCount", desc := "(I)I" } : MethodName)) ∈ wsBig := wb2 (List.mem_of_getElem? (i := 1) rfl) rfl
theorem w242 : (Cond.code ({ cls := "java/lang/Integer", name := "bitCount", desc := "(I)I" } : MethodName) prog_9_method_49_code (1 : Nat) (Option.some FieldType.int)) ∈ wsBig := wb2 (List.mem_of_getElem? (i := 2) rfl) rfl
theorem w243 : (Cond.constant "java/lang/Integer" (265 : Nat) (1431655765 : Int32)) ∈ wsBig := wb2 (List.mem_of_getElem? (i := 3) rfl) rfl
theorem w244 : (Cond.constant "java/lang/Integer" (266 : Nat) (858993459 : Int32)) ∈ wsBig := wb2 (List.mem_of_getElem? (i := 4) rfl) rfl
theorem w245 : (Cond.constant "java/lang/Integer" (267 : Nat) (252645135 : Int32)) ∈ wsBig := wb2 (List.mem_of_getElem? (i := 5) rfl) rfl
theorem w246 : (Cond.methodLinkNest "InSyncLog" (195 : Nat) ({ cls := "InSyncLog$Log", name := "add", desc := "(II)V" } : MethodName) "InSyncLog") ∈ xnl := wn2 (List.mem_of_getElem? (i := 6) rfl) rfl
theorem w248 : (Cond.instanceMethod ({ cls := "InSyncLog$Log", name := "add", desc := "(II)V" } : MethodName)) ∈ wsBig := wb2 (List.mem_of_getElem? (i := 8) rfl) rfl
theorem w249 : (Cond.code ({ cls := "InSyncLog$Log", name := "add", desc := "(II)V" } : MethodName) prog_5_method_9_code (3 : Nat) (Option.none : Option FieldType)) ∈ wsBig := wb2 (List.mem_of_getElem? (i := 9) rfl) rfl
theorem w250 : (Cond.methodLink "InSyncLog$Log" (38 : Nat) ({ cls := "InSyncLog$Log", name := "isFull", desc := "()Z" } : MethodName)) ∈ wsBig := wb2 (List.mem_of_getElem? (i := 10) rfl) rfl
theorem w251 : (Cond.methodLinkNest "InSyncLog" (149 : Nat) ({ cls := "InSyncLog$Broker", name := "raiseHw", desc := "()V" } : MethodName) "InSyncLog") ∈ xnl := wn2 (List.mem_of_getElem? (i := 11) rfl) rfl
theorem w253 : (Cond.instanceMethod ({ cls := "InSyncLog$Broker", name := "raiseHw", desc := "()V" } : MethodName)) ∈ wsBig := wb2 (List.mem_of_getElem? (i := 13) rfl) rfl
theorem w254 : (Cond.code ({ cls := "InSyncLog$Broker", name := "raiseHw", desc := "()V" } : MethodName) prog_2_method_7_code (3 : Nat) (Option.none : Option FieldType)) ∈ wsBig := wb2 (List.mem_of_getElem? (i := 14) rfl) rfl
theorem w255 : (Cond.methodLinkNest "InSyncLog$Broker" (83 : Nat) ({ cls := "InSyncLog", name := "contains", desc := "(II)Z" } : MethodName) "InSyncLog") ∈ xnl := wn2 (List.mem_of_getElem? (i := 15) rfl) rfl
theorem w256 : (Cond.static ({ cls := "InSyncLog", name := "contains", desc := "(II)Z" } : MethodName)) ∈ wsBig := wb2 (List.mem_of_getElem? (i := 16) rfl) rfl
theorem w257 : (Cond.code ({ cls := "InSyncLog", name := "contains", desc := "(II)Z" } : MethodName) prog_1_method_23_code (2 : Nat) (Option.some FieldType.boolean)) ∈ wsBig := wb2 (List.mem_of_getElem? (i := 17) rfl) rfl
theorem w258 : (Cond.methodLink "InSyncLog$Broker" (87 : Nat) ({ cls := "java/lang/Math", name := "min", desc := "(II)I" } : MethodName)) ∈ wsBig := wb2 (List.mem_of_getElem? (i := 18) rfl) rfl
theorem w259 : (Cond.methodLink "InSyncLog$Broker" (74 : Nat) ({ cls := "java/lang/Math", name := "max", desc := "(II)I" } : MethodName)) ∈ wsBig := wb2 (List.mem_of_getElem? (i := 19) rfl) rfl
theorem w260 : (Cond.methodLink "InSyncLogLaw" (26 : Nat) ({ cls := "InSyncLog", name := "commit", desc := "(II)I" } : MethodName)) ∈ wsBig := wb2 (List.mem_of_getElem? (i := 20) rfl) rfl
theorem w261 : (Cond.instanceMethod ({ cls := "InSyncLog", name := "commit", desc := "(II)I" } : MethodName)) ∈ wsBig := wb2 (List.mem_of_getElem? (i := 21) rfl) rfl
theorem w262 : (Cond.selects "InSyncLog" ({ cls := "InSyncLog", name := "commit", desc := "(II)I" } : MethodName) ({ cls := "InSyncLog", name := "commit", desc := "(II)I" } : MethodName)) ∈ wsBig := wb2 (List.mem_of_getElem? (i := 22) rfl) rfl
theorem w263 : (Cond.code ({ cls := "InSyncLog", name := "commit", desc := "(II)I" } : MethodName) prog_1_method_3_code (3 : Nat) (Option.some FieldType.int)) ∈ wsBig := wb2 (List.mem_of_getElem? (i := 23) rfl) rfl
theorem w264 : (Cond.methodLink "InSyncLogLaw" (30 : Nat) ({ cls := "InSyncLog", name := "readable", desc := "(II)I" } : MethodName)) ∈ wsBig := wb2 (List.mem_of_getElem? (i := 24) rfl) rfl
theorem w265 : (Cond.instanceMethod ({ cls := "InSyncLog", name := "readable", desc := "(II)I" } : MethodName)) ∈ wsBig := wb2 (List.mem_of_getElem? (i := 25) rfl) rfl
theorem w266 : (Cond.selects "InSyncLog" ({ cls := "InSyncLog", name := "readable", desc := "(II)I" } : MethodName) ({ cls := "InSyncLog", name := "readable", desc := "(II)I" } : MethodName)) ∈ wsBig := wb2 (List.mem_of_getElem? (i := 26) rfl) rfl
theorem w267 : (Cond.code ({ cls := "InSyncLog", name := "readable", desc := "(II)I" } : MethodName) prog_1_method_4_code (3 : Nat) (Option.some FieldType.int)) ∈ wsBig := wb2 (List.mem_of_getElem? (i := 27) rfl) rfl
theorem w268 : (Cond.methodLinkNest "InSyncLog" (64 : Nat) ({ cls := "InSyncLog$Log", name := "has", desc := "(I)Z" } : MethodName) "InSyncLog") ∈ xnl := wn2 (List.mem_of_getElem? (i := 28) rfl) rfl
theorem w270 : (Cond.instanceMethod ({ cls := "InSyncLog$Log", name := "has", desc := "(I)Z" } : MethodName)) ∈ wsBig := wb2 (List.mem_of_getElem? (i := 30) rfl) rfl
theorem w271 : (Cond.code ({ cls := "InSyncLog$Log", name := "has", desc := "(I)Z" } : MethodName) prog_5_method_2_code (2 : Nat) (Option.some FieldType.boolean)) ∈ wsBig := wb2 (List.mem_of_getElem? (i := 31) rfl) rfl
theorem w272 : (Cond.methodLinkNest "InSyncLog" (69 : Nat) ({ cls := "InSyncLog$Log", name := "isMark", desc := "(I)Z" } : MethodName) "InSyncLog") ∈ xnl := wn2 (List.mem_of_getElem? (i := 32) rfl) rfl
theorem w274 : (Cond.instanceMethod ({ cls := "InSyncLog$Log", name := "isMark", desc := "(I)Z" } : MethodName)) ∈ wsBig := wb2 (List.mem_of_getElem? (i := 34) rfl) rfl
theorem w275 : (Cond.code ({ cls := "InSyncLog$Log", name := "isMark", desc := "(I)Z" } : MethodName) prog_5_method_4_code (2 : Nat) (Option.some FieldType.boolean)) ∈ wsBig := wb2 (List.mem_of_getElem? (i := 35) rfl) rfl
theorem w276 : (Cond.methodLink "InSyncLog$Log" (22 : Nat) ({ cls := "InSyncLog$Log", name := "stampOf", desc := "(I)I" } : MethodName)) ∈ wsBig := wb2 (List.mem_of_getElem? (i := 36) rfl) rfl
theorem w278 : (Cond.instanceMethod ({ cls := "InSyncLog$Log", name := "stampOf", desc := "(I)I" } : MethodName)) ∈ wsBig := wb2 (List.mem_of_getElem? (i := 38) rfl) rfl
theorem w279 : (Cond.code ({ cls := "InSyncLog$Log", name := "stampOf", desc := "(I)I" } : MethodName) prog_5_method_5_code (2 : Nat) (Option.some FieldType.int)) ∈ wsBig := wb2 (List.mem_of_getElem? (i := 39) rfl) rfl
theorem w280 : (Cond.methodLink "InSyncLog$Log" (26 : Nat) ({ cls := "InSyncLog$Log", name := "has", desc := "(I)Z" } : MethodName)) ∈ wsBig := wb2 (List.mem_of_getElem? (i := 40) rfl) rfl
theorem w281 : (Cond.methodLink "InSyncLogLaw" (34 : Nat) ({ cls := "InSyncLog", name := "committed", desc := "(I)I" } : MethodName)) ∈ wsBig := wb2 (List.mem_of_getElem? (i := 41) rfl) rfl
theorem w282 : (Cond.instanceMethod ({ cls := "InSyncLog", name := "committed", desc := "(I)I" } : MethodName)) ∈ wsBig := wb2 (List.mem_of_getElem? (i := 42) rfl) rfl
theorem w283 : (Cond.selects "InSyncLog" ({ cls := "InSyncLog", name := "committed", desc := "(I)I" } : MethodName) ({ cls := "InSyncLog", name := "committed", desc := "(I)I" } : MethodName)) ∈ wsBig := wb2 (List.mem_of_getElem? (i := 43) rfl) rfl
theorem w284 : (Cond.code ({ cls := "InSyncLog", name := "committed", desc := "(I)I" } : MethodName) prog_1_method_5_code (4 : Nat) (Option.some FieldType.int)) ∈ wsBig := wb2 (List.mem_of_getElem? (i := 44) rfl) rfl
theorem w285 : (Cond.methodLinkNest "InSyncLog" (72 : Nat) ({ cls := "InSyncLog$Log", name := "valueOf", desc := "(I)I" } : MethodName) "InSyncLog") ∈ xnl := wn2 (List.mem_of_getElem? (i := 45) rfl) rfl
theorem w287 : (Cond.instanceMethod ({ cls := "InSyncLog$Log", name := "valueOf", desc := "(I)I" } : MethodName)) ∈ wsBig := wb2 (List.mem_of_getElem? (i := 47) rfl) rfl
theorem w288 : (Cond.code ({ cls := "InSyncLog$Log", name := "valueOf", desc := "(I)I" } : MethodName) prog_5_method_7_code (2 : Nat) (Option.some FieldType.int)) ∈ wsBig := wb2 (List.mem_of_getElem? (i := 48) rfl) rfl
theorem w289 : (Cond.methodLink "InSyncLogLaw" (39 : Nat) ({ cls := "InSyncLog", name := "fetch", desc := "(I)Z" } : MethodName)) ∈ wsBig := wb2 (List.mem_of_getElem? (i := 49) rfl) rfl
theorem w290 : (Cond.instanceMethod ({ cls := "InSyncLog", name := "fetch", desc := "(I)Z" } : MethodName)) ∈ wsBig := wb2 (List.mem_of_getElem? (i := 50) rfl) rfl
theorem w291 : (Cond.selects "InSyncLog" ({ cls := "InSyncLog", name := "fetch", desc := "(I)Z" } : MethodName) ({ cls := "InSyncLog", name := "fetch", desc := "(I)Z" } : MethodName)) ∈ wsBig := wb2 (List.mem_of_getElem? (i := 51) rfl) rfl
theorem w292 : (Cond.code ({ cls := "InSyncLog", name := "fetch", desc := "(I)Z" } : MethodName) prog_1_method_6_code (3 : Nat) (Option.some FieldType.boolean)) ∈ wsBig := wb2 (List.mem_of_getElem? (i := 52) rfl) rfl
theorem w293 : (Cond.methodLink "InSyncLog" (76 : Nat) ({ cls := "InSyncLog", name := "isUp", desc := "(I)Z" } : MethodName)) ∈ wsBig := wb2 (List.mem_of_getElem? (i := 53) rfl) rfl
theorem w295 : (Cond.instanceMethod ({ cls := "InSyncLog", name := "isUp", desc := "(I)Z" } : MethodName)) ∈ wsBig := wb2 (List.mem_of_getElem? (i := 55) rfl) rfl
theorem w296 : (Cond.code ({ cls := "InSyncLog", name := "isUp", desc := "(I)Z" } : MethodName) prog_1_method_25_code (2 : Nat) (Option.some FieldType.boolean)) ∈ wsBig := wb2 (List.mem_of_getElem? (i := 56) rfl) rfl
theorem w297 : (Cond.methodLinkNest "InSyncLog" (96 : Nat) ({ cls := "InSyncLog$Log", name := "lastEpoch", desc := "()I" } : MethodName) "InSyncLog") ∈ xnl := wn2 (List.mem_of_getElem? (i := 57) rfl) rfl
theorem w299 : (Cond.instanceMethod ({ cls := "InSyncLog$Log", name := "lastEpoch", desc := "()I" } : MethodName)) ∈ wsBig := wb2 (List.mem_of_getElem? (i := 59) rfl) rfl
theorem w300 : (Cond.code ({ cls := "InSyncLog$Log", name := "lastEpoch", desc := "()I" } : MethodName) prog_5_method_8_code (1 : Nat) (Option.some FieldType.int)) ∈ wsBig := wb2 (List.mem_of_getElem? (i := 60) rfl) rfl
theorem w301 : (Cond.methodLink "InSyncLog$Log" (35 : Nat) ({ cls := "InSyncLog$Log", name := "epochOf", desc := "(I)I" } : MethodName)) ∈ wsBig := wb2 (List.mem_of_getElem? (i := 61) rfl) rfl
theorem w303 : (Cond.instanceMethod ({ cls := "InSyncLog$Log", name := "epochOf", desc := "(I)I" } : MethodName)) ∈ wsBig := wb2 (List.mem_of_getElem? (i := 63) rfl) rfl
theorem w304 : (Cond.code ({ cls := "InSyncLog$Log", name := "epochOf", desc := "(I)I" } : MethodName) prog_5_method_6_code (2 : Nat) (Option.some FieldType.int)) ∈ wsBig := wb2 (List.mem_of_getElem? (i := 64) rfl) rfl
theorem w305 : (Cond.methodLink "InSyncLog$Log" (30 : Nat) ({ cls := "java/lang/Math", name := "abs", desc := "(I)I" } : MethodName)) ∈ wsBig := wb2 (List.mem_of_getElem? (i := 65) rfl) rfl
theorem w306 : (Cond.static ({ cls := "java/lang/Math", name := "abs", desc := "(I)I" } : MethodName)) ∈ wsBig := wb2 (List.mem_of_getElem? (i := 66) rfl) rfl
theorem w307 : (Cond.code ({ cls := "java/lang/Math", name := "abs", desc := "(I)I" } : MethodName) prog_10_method_59_code (1 : Nat) (Option.some FieldType.int)) ∈ wsBig := wb2 (List.mem_of_getElem? (i := 67) rfl) rfl
theorem w308 : (Cond.methodLinkNest "InSyncLog" (100 : Nat) ({ cls := "InSyncLog$Channel", name := "send", desc := "(ILInSyncLog$Broker;IIII)LInSyncLog$Message;" } : MethodName) "InSyncLog") ∈ xnl := wn2 (List.mem_of_getElem? (i := 68) rfl) rfl
theorem w310 : (Cond.instanceMethod ({ cls := "InSyncLog$Channel", name := "send", desc := "(ILInSyncLog$Broker;IIII)LInSyncLog$Message;" } : MethodName)) ∈ wsBig := wb2 (List.mem_of_getElem? (i := 70) rfl) rfl
theorem w311 : (Cond.code ({ cls := "InSyncLog$Channel", name := "send", desc := "(ILInSyncLog$Broker;IIII)LInSyncLog$Message;" } : MethodName) prog_3_method_4_code (8 : Nat) (Option.some (FieldType.object "InSyncLog$Message"))) ∈ wsBig := wb2 (List.mem_of_getElem? (i := 71) rfl) rfl
theorem w312 : (Cond.methodLink "InSyncLogLaw" (44 : Nat) ({ cls := "InSyncLog", name := "deliver", desc := "(I)Z" } : MethodName)) ∈ wsBig := wb2 (List.mem_of_getElem? (i := 72) rfl) rfl
theorem w313 : (Cond.instanceMethod ({ cls := "InSyncLog", name := "deliver", desc := "(I)Z" } : MethodName)) ∈ wsBig := wb2 (List.mem_of_getElem? (i := 73) rfl) rfl
theorem w314 : (Cond.selects "InSyncLog" ({ cls := "InSyncLog", name := "deliver", desc := "(I)Z" } : MethodName) ({ cls := "InSyncLog", name := "deliver", desc := "(I)Z" } : MethodName)) ∈ wsBig := wb2 (List.mem_of_getElem? (i := 74) rfl) rfl
theorem w315 : (Cond.code ({ cls := "InSyncLog", name := "deliver", desc := "(I)Z" } : MethodName) prog_1_method_7_code (4 : Nat) (Option.some FieldType.boolean)) ∈ wsBig := wb2 (List.mem_of_getElem? (i := 75) rfl) rfl
theorem w316 : (Cond.methodLinkNest "InSyncLog" (104 : Nat) ({ cls := "InSyncLog$Channel", name := "take", desc := "(I)LInSyncLog$Message;" } : MethodName) "InSyncLog") ∈ xnl := wn2 (List.mem_of_getElem? (i := 76) rfl) rfl
theorem w318 : (Cond.instanceMethod ({ cls := "InSyncLog$Channel", name := "take", desc := "(I)LInSyncLog$Message;" } : MethodName)) ∈ wsBig := wb2 (List.mem_of_getElem? (i := 78) rfl) rfl
theorem w319 : (Cond.code ({ cls := "InSyncLog$Channel", name := "take", desc := "(I)LInSyncLog$Message;" } : MethodName) prog_3_method_3_code (4 : Nat) (Option.some (FieldType.object "InSyncLog$Message"))) ∈ wsBig := wb2 (List.mem_of_getElem? (i := 79) rfl) rfl
theorem w320 : (Cond.methodLink "InSyncLog$Channel" (22 : Nat) ({ cls := "InSyncLog$Channel", name := "has", desc := "(I)Z" } : MethodName)) ∈ wsBig := wb2 (List.mem_of_getElem? (i := 80) rfl) rfl
theorem w322 : (Cond.instanceMethod ({ cls := "InSyncLog$Channel", name := "has", desc := "(I)Z" } : MethodName)) ∈ wsBig := wb2 (List.mem_of_getElem? (i := 82) rfl) rfl
theorem w323 : (Cond.code ({ cls := "InSyncLog$Channel", name := "has", desc := "(I)Z" } : MethodName) prog_3_method_2_code (2 : Nat) (Option.some FieldType.boolean)) ∈ wsBig := wb2 (List.mem_of_getElem? (i := 83) rfl) rfl
theorem w324 : (Cond.methodLink "InSyncLog" (116 : Nat) ({ cls := "InSyncLog", name := "answer", desc := "(LInSyncLog$Broker;LInSyncLog$Message;)V" } : MethodName)) ∈ wsBig := wb2 (List.mem_of_getElem? (i := 84) rfl) rfl
theorem w326 : (Cond.instanceMethod ({ cls := "InSyncLog", name := "answer", desc := "(LInSyncLog$Broker;LInSyncLog$Message;)V" } : MethodName)) ∈ wsBig := wb2 (List.mem_of_getElem? (i := 86) rfl) rfl
theorem w327 : (Cond.code ({ cls := "InSyncLog", name := "answer", desc := "(LInSyncLog$Broker;LInSyncLog$Message;)V" } : MethodName) prog_1_method_28_code (3 : Nat) (Option.none : Option FieldType)) ∈ wsBig := wb2 (List.mem_of_getElem? (i := 87) rfl) rfl
theorem w328 : (Cond.methodLinkNest "InSyncLog" (206 : Nat) ({ cls := "InSyncLog$Log", name := "continues", desc := "(II)Z" } : MethodName) "InSyncLog") ∈ xnl := wn2 (List.mem_of_getElem? (i := 88) rfl) rfl
theorem w330 : (Cond.instanceMethod ({ cls := "InSyncLog$Log", name := "continues", desc := "(II)Z" } : MethodName)) ∈ wsBig := wb2 (List.mem_of_getElem? (i := 90) rfl) rfl
theorem w331 : (Cond.code ({ cls := "InSyncLog$Log", name := "continues", desc := "(II)Z" } : MethodName) prog_5_method_11_code (3 : Nat) (Option.some FieldType.boolean)) ∈ wsBig := wb2 (List.mem_of_getElem? (i := 91) rfl) rfl
theorem w332 : (Cond.methodLinkNest "InSyncLog" (212 : Nat) ({ cls := "InSyncLog$Broker", name := "noteFetched", desc := "(III)V" } : MethodName) "InSyncLog") ∈ xnl := wn2 (List.mem_of_getElem? (i := 92) rfl) rfl
theorem w334 : (Cond.instanceMethod ({ cls := "InSyncLog$Broker", name := "noteFetched", desc := "(III)V" } : MethodName)) ∈ wsBig := wb2 (List.mem_of_getElem? (i := 94) rfl) rfl
theorem w335 : (Cond.code ({ cls := "InSyncLog$Broker", name := "noteFetched", desc := "(III)V" } : MethodName) prog_2_method_6_code (4 : Nat) (Option.none : Option FieldType)) ∈ wsBig := wb2 (List.mem_of_getElem? (i := 95) rfl) rfl
theorem w336 : (Cond.methodLink "InSyncLog$Broker" (80 : Nat) ({ cls := "InSyncLog$Broker", name := "raiseHw", desc := "()V" } : MethodName)) ∈ wsBig := wb2 (List.mem_of_getElem? (i := 96) rfl) rfl
theorem w337 : (Cond.methodLink "InSyncLog" (216 : Nat) ({ cls := "InSyncLog", name := "sendBatch", desc := "(LInSyncLog$Broker;LInSyncLog$Message;)V" } : MethodName)) ∈ wsBig := wb2 (List.mem_of_getElem? (i := 97) rfl) rfl
theorem w339 : (Cond.instanceMethod ({ cls := "InSyncLog", name := "sendBatch", desc := "(LInSyncLog$Broker;LInSyncLog$Message;)V" } : MethodName)) ∈ wsBig := wb2 (List.mem_of_getElem? (i := 99) rfl) rfl
theorem w340 : (Cond.code ({ cls := "InSyncLog", name := "sendBatch", desc := "(LInSyncLog$Broker;LInSyncLog$Message;)V" } : MethodName) prog_1_method_30_code (5 : Nat) (Option.none : Option FieldType)) ∈ wsBig := wb2 (List.mem_of_getElem? (i := 100) rfl) rfl
theorem w341 : (Cond.methodLinkNest "InSyncLog" (231 : Nat) ({ cls := "InSyncLog$Message", name := "copyRecords", desc := "(LInSyncLog$Log;I)V" } : MethodName) "InSyncLog") ∈ xnl := wn2 (List.mem_of_getElem? (i := 101) rfl) rfl
theorem w343 : (Cond.instanceMethod ({ cls := "InSyncLog$Message", name := "copyRecords", desc := "(LInSyncLog$Log;I)V" } : MethodName)) ∈ wsBig := wb2 (List.mem_of_getElem? (i := 103) rfl) rfl
theorem w344 : (Cond.code ({ cls := "InSyncLog$Message", name := "copyRecords", desc := "(LInSyncLog$Log;I)V" } : MethodName) prog_6_method_3_code (4 : Nat) (Option.none : Option FieldType)) ∈ wsBig := wb2 (List.mem_of_getElem? (i := 104) rfl) rfl
theorem w345 : (Cond.methodLinkNest "InSyncLog$Message" (40 : Nat) ({ cls := "InSyncLog$Log", name := "stampOf", desc := "(I)I" } : MethodName) "InSyncLog") ∈ xnl := wn2 (List.mem_of_getElem? (i := 105) rfl) rfl
theorem w346 : (Cond.methodLinkNest "InSyncLog$Message" (46 : Nat) ({ cls := "InSyncLog$Log", name := "valueOf", desc := "(I)I" } : MethodName) "InSyncLog") ∈ xnl := wn2 (List.mem_of_getElem? (i := 106) rfl) rfl
theorem w347 : (Cond.methodLink "InSyncLog" (219 : Nat) ({ cls := "InSyncLog", name := "sendCut", desc := "(LInSyncLog$Broker;LInSyncLog$Message;)V" } : MethodName)) ∈ wsBig := wb2 (List.mem_of_getElem? (i := 107) rfl) rfl
theorem w349 : (Cond.instanceMethod ({ cls := "InSyncLog", name := "sendCut", desc := "(LInSyncLog$Broker;LInSyncLog$Message;)V" } : MethodName)) ∈ wsBig := wb2 (List.mem_of_getElem? (i := 109) rfl) rfl
theorem w350 : (Cond.code ({ cls := "InSyncLog", name := "sendCut", desc := "(LInSyncLog$Broker;LInSyncLog$Message;)V" } : MethodName) prog_1_method_29_code (4 : Nat) (Option.none : Option FieldType)) ∈ wsBig := wb2 (List.mem_of_getElem? (i := 110) rfl) rfl
theorem w351 : (Cond.methodLinkNest "InSyncLog" (222 : Nat) ({ cls := "InSyncLog$Log", name := "countUpTo", desc := "(I)I" } : MethodName) "InSyncLog") ∈ xnl := wn2 (List.mem_of_getElem? (i := 111) rfl) rfl
theorem w353 : (Cond.instanceMethod ({ cls := "InSyncLog$Log", name := "countUpTo", desc := "(I)I" } : MethodName)) ∈ wsBig := wb2 (List.mem_of_getElem? (i := 113) rfl) rfl
theorem w354 : (Cond.code ({ cls := "InSyncLog$Log", name := "countUpTo", desc := "(I)I" } : MethodName) prog_5_method_12_code (3 : Nat) (Option.some FieldType.int)) ∈ wsBig := wb2 (List.mem_of_getElem? (i := 114) rfl) rfl
theorem w355 : (Cond.methodLinkNest "InSyncLog" (228 : Nat) ({ cls := "InSyncLog$Log", name := "epochOf", desc := "(I)I" } : MethodName) "InSyncLog") ∈ xnl := wn2 (List.mem_of_getElem? (i := 115) rfl) rfl
theorem w356 : (Cond.methodLinkNest "InSyncLog" (120 : Nat) ({ cls := "InSyncLog$Broker", name := "accept", desc := "(LInSyncLog$Message;)V" } : MethodName) "InSyncLog") ∈ xnl := wn2 (List.mem_of_getElem? (i := 116) rfl) rfl
theorem w358 : (Cond.instanceMethod ({ cls := "InSyncLog$Broker", name := "accept", desc := "(LInSyncLog$Message;)V" } : MethodName)) ∈ wsBig := wb2 (List.mem_of_getElem? (i := 118) rfl) rfl
theorem w359 : (Cond.code ({ cls := "InSyncLog$Broker", name := "accept", desc := "(LInSyncLog$Message;)V" } : MethodName) prog_2_method_10_code (2 : Nat) (Option.none : Option FieldType)) ∈ wsBig := wb2 (List.mem_of_getElem? (i := 119) rfl) rfl
theorem w360 : (Cond.methodLink "InSyncLog$Broker" (94 : Nat) ({ cls := "InSyncLog$Broker", name := "isExpecting", desc := "(LInSyncLog$Message;)Z" } : MethodName)) ∈ wsBig := wb2 (List.mem_of_getElem? (i := 120) rfl) rfl
theorem w362 : (Cond.instanceMethod ({ cls := "InSyncLog$Broker", name := "isExpecting", desc := "(LInSyncLog$Message;)Z" } : MethodName)) ∈ wsBig := wb2 (List.mem_of_getElem? (i := 122) rfl) rfl
theorem w363 : (Cond.code ({ cls := "InSyncLog$Broker", name := "isExpecting", desc := "(LInSyncLog$Message;)Z" } : MethodName) prog_2_method_11_code (2 : Nat) (Option.some FieldType.boolean)) ∈ wsBig := wb2 (List.mem_of_getElem? (i := 123) rfl) rfl
theorem w364 : (Cond.methodLink "InSyncLog$Broker" (60 : Nat) ({ cls := "InSyncLog$Broker", name := "leads", desc := "()Z" } : MethodName)) ∈ wsBig := wb2 (List.mem_of_getElem? (i := 124) rfl) rfl
theorem w365 : (Cond.methodLinkNest "InSyncLog$Broker" (109 : Nat) ({ cls := "InSyncLog$Log", name := "countUpTo", desc := "(I)I" } : MethodName) "InSyncLog") ∈ xnl := wn2 (List.mem_of_getElem? (i := 125) rfl) rfl
theorem w366 : (Cond.methodLinkNest "InSyncLog$Broker" (113 : Nat) ({ cls := "InSyncLog$Log", name := "cutTo", desc := "(I)V" } : MethodName) "InSyncLog") ∈ xnl := wn2 (List.mem_of_getElem? (i := 126) rfl) rfl
theorem w368 : (Cond.instanceMethod ({ cls := "InSyncLog$Log", name := "cutTo", desc := "(I)V" } : MethodName)) ∈ wsBig := wb2 (List.mem_of_getElem? (i := 128) rfl) rfl
theorem w369 : (Cond.code ({ cls := "InSyncLog$Log", name := "cutTo", desc := "(I)V" } : MethodName) prog_5_method_10_code (2 : Nat) (Option.none : Option FieldType)) ∈ wsBig := wb2 (List.mem_of_getElem? (i := 129) rfl) rfl
theorem w370 : (Cond.methodLink "InSyncLog$Log" (42 : Nat) ({ cls := "java/lang/Math", name := "min", desc := "(II)I" } : MethodName)) ∈ wsBig := wb2 (List.mem_of_getElem? (i := 130) rfl) rfl
theorem w371 : (Cond.methodLinkNest "InSyncLog$Broker" (117 : Nat) ({ cls := "InSyncLog$Message", name := "appendRecords", desc := "(LInSyncLog$Log;)V" } : MethodName) "InSyncLog") ∈ xnl := wn2 (List.mem_of_getElem? (i := 131) rfl) rfl
theorem w373 : (Cond.instanceMethod ({ cls := "InSyncLog$Message", name := "appendRecords", desc := "(LInSyncLog$Log;)V" } : MethodName)) ∈ wsBig := wb2 (List.mem_of_getElem? (i := 133) rfl) rfl
theorem w374 : (Cond.code ({ cls := "InSyncLog$Message", name := "appendRecords", desc := "(LInSyncLog$Log;)V" } : MethodName) prog_6_method_4_code (3 : Nat) (Option.none : Option FieldType)) ∈ wsBig := wb2 (List.mem_of_getElem? (i := 134) rfl) rfl
theorem w375 : (Cond.methodLinkNest "InSyncLog$Message" (49 : Nat) ({ cls := "InSyncLog$Log", name := "add", desc := "(II)V" } : MethodName) "InSyncLog") ∈ xnl := wn2 (List.mem_of_getElem? (i := 135) rfl) rfl
theorem w376 : (Cond.methodLink "InSyncLogLaw" (48 : Nat) ({ cls := "InSyncLog", name := "lose", desc := "(I)Z" } : MethodName)) ∈ wsBig := wb2 (List.mem_of_getElem? (i := 136) rfl) rfl
theorem w377 : (Cond.instanceMethod ({ cls := "InSyncLog", name := "lose", desc := "(I)Z" } : MethodName)) ∈ wsBig := wb2 (List.mem_of_getElem? (i := 137) rfl) rfl
theorem w378 : (Cond.selects "InSyncLog" ({ cls := "InSyncLog", name := "lose", desc := "(I)Z" } : MethodName) ({ cls := "InSyncLog", name := "lose", desc := "(I)Z" } : MethodName)) ∈ wsBig := wb2 (List.mem_of_getElem? (i := 138) rfl) rfl
theorem w379 : (Cond.code ({ cls := "InSyncLog", name := "lose", desc := "(I)Z" } : MethodName) prog_1_method_8_code (2 : Nat) (Option.some FieldType.boolean)) ∈ wsBig := wb2 (List.mem_of_getElem? (i := 139) rfl) rfl
theorem w380 : (Cond.methodLink "InSyncLogLaw" (52 : Nat) ({ cls := "InSyncLog", name := "flight", desc := "()I" } : MethodName)) ∈ wsBig := wb2 (List.mem_of_getElem? (i := 140) rfl) rfl
theorem w381 : (Cond.instanceMethod ({ cls := "InSyncLog", name := "flight", desc := "()I" } : MethodName)) ∈ wsBig := wb2 (List.mem_of_getElem? (i := 141) rfl) rfl
theorem w382 : (Cond.selects "InSyncLog" ({ cls := "InSyncLog", name := "flight", desc := "()I" } : MethodName) ({ cls := "InSyncLog", name := "flight", desc := "()I" } : MethodName)) ∈ wsBig := wb2 (List.mem_of_getElem? (i := 142) rfl) rfl
theorem w383 : (Cond.code ({ cls := "InSyncLog", name := "flight", desc := "()I" } : MethodName) prog_1_method_9_code (1 : Nat) (Option.some FieldType.int)) ∈ wsBig := wb2 (List.mem_of_getElem? (i := 143) rfl) rfl
theorem w384 : (Cond.methodLink "InSyncLogLaw" (57 : Nat) ({ cls := "InSyncLog", name := "message", desc := "(II)I" } : MethodName)) ∈ wsBig := wb2 (List.mem_of_getElem? (i := 144) rfl) rfl
theorem w385 : (Cond.instanceMethod ({ cls := "InSyncLog", name := "message", desc := "(II)I" } : MethodName)) ∈ wsBig := wb2 (List.mem_of_getElem? (i := 145) rfl) rfl
theorem w386 : (Cond.selects "InSyncLog" ({ cls := "InSyncLog", name := "message", desc := "(II)I" } : MethodName) ({ cls := "InSyncLog", name := "message", desc := "(II)I" } : MethodName)) ∈ wsBig := wb2 (List.mem_of_getElem? (i := 146) rfl) rfl
theorem w387 : (Cond.code ({ cls := "InSyncLog", name := "message", desc := "(II)I" } : MethodName) prog_1_method_10_code (3 : Nat) (Option.some FieldType.int)) ∈ wsBig := wb2 (List.mem_of_getElem? (i := 147) rfl) rfl
theorem w388 : (Cond.methodLinkNest "InSyncLog" (127 : Nat) ({ cls := "InSyncLog$Channel", name := "has", desc := "(I)Z" } : MethodName) "InSyncLog") ∈ xnl := wn2 (List.mem_of_getElem? (i := 148) rfl) rfl
theorem w389 : (Cond.methodLinkNest "InSyncLog" (132 : Nat) ({ cls := "InSyncLog$Message", name := "word", desc := "(I)I" } : MethodName) "InSyncLog") ∈ xnl := wn2 (List.mem_of_getElem? (i := 149) rfl) rfl
theorem w391 : (Cond.instanceMethod ({ cls := "InSyncLog$Message", name := "word", desc := "(I)I" } : MethodName)) ∈ wsBig := wb2 (List.mem_of_getElem? (i := 151) rfl) rfl
theorem w392 : (Cond.code ({ cls := "InSyncLog$Message", name := "word", desc := "(I)I" } : MethodName) prog_6_method_2_code (2 : Nat) (Option.some FieldType.int)) ∈ wsBig := wb2 (List.mem_of_getElem? (i := 152) rfl) rfl
theorem w393 : (Cond.methodLink "InSyncLogLaw" (61 : Nat) ({ cls := "InSyncLog", name := "review", desc := "(I)I" } : MethodName)) ∈ wsBig := wb2 (List.mem_of_getElem? (i := 153) rfl) rfl
theorem w394 : (Cond.instanceMethod ({ cls := "InSyncLog", name := "review", desc := "(I)I" } : MethodName)) ∈ wsBig := wb2 (List.mem_of_getElem? (i := 154) rfl) rfl
theorem w395 : (Cond.selects "InSyncLog" ({ cls := "InSyncLog", name := "review", desc := "(I)I" } : MethodName) ({ cls := "InSyncLog", name := "review", desc := "(I)I" } : MethodName)) ∈ wsBig := wb2 (List.mem_of_getElem? (i := 155) rfl) rfl
theorem w396 : (Cond.code ({ cls := "InSyncLog", name := "review", desc := "(I)I" } : MethodName) prog_1_method_11_code (3 : Nat) (Option.some FieldType.int)) ∈ wsBig := wb2 (List.mem_of_getElem? (i := 156) rfl) rfl
theorem w397 : (Cond.methodLinkNest "InSyncLog" (139 : Nat) ({ cls := "InSyncLog$Broker", name := "replicasInSync", desc := "(II)I" } : MethodName) "InSyncLog") ∈ xnl := wn2 (List.mem_of_getElem? (i := 157) rfl) rfl
theorem w399 : (Cond.instanceMethod ({ cls := "InSyncLog$Broker", name := "replicasInSync", desc := "(II)I" } : MethodName)) ∈ wsBig := wb2 (List.mem_of_getElem? (i := 159) rfl) rfl
theorem w400 : (Cond.code ({ cls := "InSyncLog$Broker", name := "replicasInSync", desc := "(II)I" } : MethodName) prog_2_method_8_code (6 : Nat) (Option.some FieldType.int)) ∈ wsBig := wb2 (List.mem_of_getElem? (i := 160) rfl) rfl
theorem w401 : (Cond.methodLink "InSyncLog$Broker" (90 : Nat) ({ cls := "InSyncLog$Broker", name := "hasFetchedEnough", desc := "(I)Z" } : MethodName)) ∈ wsBig := wb2 (List.mem_of_getElem? (i := 161) rfl) rfl
theorem w403 : (Cond.instanceMethod ({ cls := "InSyncLog$Broker", name := "hasFetchedEnough", desc := "(I)Z" } : MethodName)) ∈ wsBig := wb2 (List.mem_of_getElem? (i := 163) rfl) rfl
theorem w404 : (Cond.code ({ cls := "InSyncLog$Broker", name := "hasFetchedEnough", desc := "(I)Z" } : MethodName) prog_2_method_9_code (2 : Nat) (Option.some FieldType.boolean)) ∈ wsBig := wb2 (List.mem_of_getElem? (i := 164) rfl) rfl
theorem w405 : (Cond.methodLink "InSyncLogLaw" (65 : Nat) ({ cls := "InSyncLog", name := "learn", desc := "(I)Z" } : MethodName)) ∈ wsBig := wb2 (List.mem_of_getElem? (i := 165) rfl) rfl
theorem w406 : (Cond.instanceMethod ({ cls := "InSyncLog", name := "learn", desc := "(I)Z" } : MethodName)) ∈ wsBig := wb2 (List.mem_of_getElem? (i := 166) rfl) rfl
theorem w407 : (Cond.selects "InSyncLog" ({ cls := "InSyncLog", name := "learn", desc := "(I)Z" } : MethodName) ({ cls := "InSyncLog", name := "learn", desc := "(I)Z" } : MethodName)) ∈ wsBig := wb2 (List.mem_of_getElem? (i := 167) rfl) rfl
theorem w408 : (Cond.code ({ cls := "InSyncLog", name := "learn", desc := "(I)Z" } : MethodName) prog_1_method_12_code (2 : Nat) (Option.some FieldType.boolean)) ∈ wsBig := wb2 (List.mem_of_getElem? (i := 168) rfl) rfl
theorem w409 : (Cond.methodLinkNest "InSyncLog" (152 : Nat) ({ cls := "InSyncLog$Broker", name := "adopt", desc := "(LInSyncLog$Controller;I)V" } : MethodName) "InSyncLog") ∈ xnl := wn2 (List.mem_of_getElem? (i := 169) rfl) rfl
theorem w411 : (Cond.instanceMethod ({ cls := "InSyncLog$Broker", name := "adopt", desc := "(LInSyncLog$Controller;I)V" } : MethodName)) ∈ wsBig := wb2 (List.mem_of_getElem? (i := 171) rfl) rfl
theorem w412 : (Cond.code ({ cls := "InSyncLog$Broker", name := "adopt", desc := "(LInSyncLog$Controller;I)V" } : MethodName) prog_2_method_4_code (3 : Nat) (Option.none : Option FieldType)) ∈ wsBig := wb2 (List.mem_of_getElem? (i := 172) rfl) rfl
theorem w413 : (Cond.methodLink "InSyncLogLaw" (69 : Nat) ({ cls := "InSyncLog", name := "crash", desc := "(I)Z" } : MethodName)) ∈ wsBig := wb2 (List.mem_of_getElem? (i := 173) rfl) rfl
theorem w414 : (Cond.instanceMethod ({ cls := "InSyncLog", name := "crash", desc := "(I)Z" } : MethodName)) ∈ wsBig := wb2 (List.mem_of_getElem? (i := 174) rfl) rfl
theorem w415 : (Cond.selects "InSyncLog" ({ cls := "InSyncLog", name := "crash", desc := "(I)Z" } : MethodName) ({ cls := "InSyncLog", name := "crash", desc := "(I)Z" } : MethodName)) ∈ wsBig := wb2 (List.mem_of_getElem? (i := 175) rfl) rfl
theorem w416 : (Cond.code ({ cls := "InSyncLog", name := "crash", desc := "(I)Z" } : MethodName) prog_1_method_13_code (2 : Nat) (Option.some FieldType.boolean)) ∈ wsBig := wb2 (List.mem_of_getElem? (i := 176) rfl) rfl
theorem w417 : (Cond.methodLinkNest "InSyncLog" (156 : Nat) ({ cls := "InSyncLog$Broker", name := "goDown", desc := "()V" } : MethodName) "InSyncLog") ∈ xnl := wn2 (List.mem_of_getElem? (i := 177) rfl) rfl
theorem w419 : (Cond.instanceMethod ({ cls := "InSyncLog$Broker", name := "goDown", desc := "()V" } : MethodName)) ∈ wsBig := wb2 (List.mem_of_getElem? (i := 179) rfl) rfl
theorem w420 : (Cond.code ({ cls := "InSyncLog$Broker", name := "goDown", desc := "()V" } : MethodName) prog_2_method_5_code (1 : Nat) (Option.none : Option FieldType)) ∈ wsBig := wb2 (List.mem_of_getElem? (i := 180) rfl) rfl
theorem w421 : (Cond.methodLink "InSyncLogLaw" (73 : Nat) ({ cls := "InSyncLog", name := "restart", desc := "(I)Z" } : MethodName)) ∈ wsBig := wb2 (List.mem_of_getElem? (i := 181) rfl) rfl
theorem w422 : (Cond.instanceMethod ({ cls := "InSyncLog", name := "restart", desc := "(I)Z" } : MethodName)) ∈ wsBig := wb2 (List.mem_of_getElem? (i := 182) rfl) rfl
theorem w423 : (Cond.selects "InSyncLog" ({ cls := "InSyncLog", name := "restart", desc := "(I)Z" } : MethodName) ({ cls := "InSyncLog", name := "restart", desc := "(I)Z" } : MethodName)) ∈ wsBig := wb2 (List.mem_of_getElem? (i := 183) rfl) rfl
theorem w424 : (Cond.code ({ cls := "InSyncLog", name := "restart", desc := "(I)Z" } : MethodName) prog_1_method_14_code (2 : Nat) (Option.some FieldType.boolean)) ∈ wsBig := wb2 (List.mem_of_getElem? (i := 184) rfl) rfl
theorem w425 : (Cond.methodLink "InSyncLogLaw" (77 : Nat) ({ cls := "InSyncLog", name := "govern", desc := "(I)Z" } : MethodName)) ∈ wsBig := wb2 (List.mem_of_getElem? (i := 185) rfl) rfl
theorem w426 : (Cond.instanceMethod ({ cls := "InSyncLog", name := "govern", desc := "(I)Z" } : MethodName)) ∈ wsBig := wb2 (List.mem_of_getElem? (i := 186) rfl) rfl
theorem w427 : (Cond.selects "InSyncLog" ({ cls := "InSyncLog", name := "govern", desc := "(I)Z" } : MethodName) ({ cls := "InSyncLog", name := "govern", desc := "(I)Z" } : MethodName)) ∈ wsBig := wb2 (List.mem_of_getElem? (i := 187) rfl) rfl
theorem w428 : (Cond.code ({ cls := "InSyncLog", name := "govern", desc := "(I)Z" } : MethodName) prog_1_method_15_code (4 : Nat) (Option.some FieldType.boolean)) ∈ wsBig := wb2 (List.mem_of_getElem? (i := 188) rfl) rfl
theorem w429 : (Cond.methodLink "InSyncLog" (165 : Nat) ({ cls := "InSyncLog", name := "contains", desc := "(II)Z" } : MethodName)) ∈ wsBig := wb2 (List.mem_of_getElem? (i := 189) rfl) rfl
theorem w430 : (Cond.methodLinkNest "InSyncLog" (169 : Nat) ({ cls := "InSyncLog$Controller", name := "reactTo", desc := "(I)Z" } : MethodName) "InSyncLog") ∈ xnl := wn2 (List.mem_of_getElem? (i := 190) rfl) rfl
theorem w432 : (Cond.instanceMethod ({ cls := "InSyncLog$Controller", name := "reactTo", desc := "(I)Z" } : MethodName)) ∈ wsBig := wb2 (List.mem_of_getElem? (i := 192) rfl) rfl
theorem w433 : (Cond.code ({ cls := "InSyncLog$Controller", name := "reactTo", desc := "(I)Z" } : MethodName) prog_4_method_2_code (4 : Nat) (Option.some FieldType.boolean)) ∈ wsBig := wb2 (List.mem_of_getElem? (i := 193) rfl) rfl
theorem w434 : (Cond.methodLinkNest "InSyncLog$Controller" (21 : Nat) ({ cls := "InSyncLog", name := "contains", desc := "(II)Z" } : MethodName) "InSyncLog") ∈ xnl := wn2 (List.mem_of_getElem? (i := 194) rfl) rfl
theorem w435 : (Cond.methodLink "InSyncLog$Controller" (25 : Nat) ({ cls := "InSyncLog$Controller", name := "begin", desc := "(II)Z" } : MethodName)) ∈ wsBig := wb2 (List.mem_of_getElem? (i := 195) rfl) rfl
theorem w437 : (Cond.instanceMethod ({ cls := "InSyncLog$Controller", name := "begin", desc := "(II)Z" } : MethodName)) ∈ wsBig := wb2 (List.mem_of_getElem? (i := 197) rfl) rfl
theorem w438 : (Cond.code ({ cls := "InSyncLog$Controller", name := "begin", desc := "(II)Z" } : MethodName) prog_4_method_3_code (3 : Nat) (Option.some FieldType.boolean)) ∈ wsBig := wb2 (List.mem_of_getElem? (i := 198) rfl) rfl
theorem w439 : (Cond.methodLinkNest "InSyncLog$Controller" (28 : Nat) ({ cls := "InSyncLog", name := "leastOf", desc := "(I)I" } : MethodName) "InSyncLog") ∈ xnl := wn2 (List.mem_of_getElem? (i := 199) rfl) rfl
theorem w440 : (Cond.static ({ cls := "InSyncLog", name := "leastOf", desc := "(I)I" } : MethodName)) ∈ wsBig := wb2 (List.mem_of_getElem? (i := 200) rfl) rfl
theorem w441 : (Cond.code ({ cls := "InSyncLog", name := "leastOf", desc := "(I)I" } : MethodName) prog_1_method_24_code (2 : Nat) (Option.some FieldType.int)) ∈ wsBig := wb2 (List.mem_of_getElem? (i := 201) rfl) rfl
theorem w442 : (Cond.methodLink "InSyncLogLaw" (81 : Nat) ({ cls := "InSyncLog", name := "tick", desc := "(I)Z" } : MethodName)) ∈ wsBig := wb2 (List.mem_of_getElem? (i := 202) rfl) rfl
theorem w443 : (Cond.instanceMethod ({ cls := "InSyncLog", name := "tick", desc := "(I)Z" } : MethodName)) ∈ wsBig := wb2 (List.mem_of_getElem? (i := 203) rfl) rfl
theorem w444 : (Cond.selects "InSyncLog" ({ cls := "InSyncLog", name := "tick", desc := "(I)Z" } : MethodName) ({ cls := "InSyncLog", name := "tick", desc := "(I)Z" } : MethodName)) ∈ wsBig := wb2 (List.mem_of_getElem? (i := 204) rfl) rfl
theorem w445 : (Cond.code ({ cls := "InSyncLog", name := "tick", desc := "(I)Z" } : MethodName) prog_1_method_16_code (2 : Nat) (Option.some FieldType.boolean)) ∈ wsBig := wb2 (List.mem_of_getElem? (i := 205) rfl) rfl
theorem w446 : (Cond.methodLink "InSyncLogLaw" (85 : Nat) ({ cls := "InSyncLog", name := "controller", desc := "(I)I" } : MethodName)) ∈ wsBig := wb2 (List.mem_of_getElem? (i := 206) rfl) rfl
theorem w447 : (Cond.instanceMethod ({ cls := "InSyncLog", name := "controller", desc := "(I)I" } : MethodName)) ∈ wsBig := wb2 (List.mem_of_getElem? (i := 207) rfl) rfl
theorem w448 : (Cond.selects "InSyncLog" ({ cls := "InSyncLog", name := "controller", desc := "(I)I" } : MethodName) ({ cls := "InSyncLog", name := "controller", desc := "(I)I" } : MethodName)) ∈ wsBig := wb2 (List.mem_of_getElem? (i := 208) rfl) rfl
theorem w449 : (Cond.code ({ cls := "InSyncLog", name := "controller", desc := "(I)I" } : MethodName) prog_1_method_17_code (2 : Nat) (Option.some FieldType.int)) ∈ wsBig := wb2 (List.mem_of_getElem? (i := 209) rfl) rfl
theorem w450 : (Cond.methodLink "InSyncLogLaw" (89 : Nat) ({ cls := "InSyncLog", name := "broker", desc := "(II)I" } : MethodName)) ∈ wsBig := wb2 (List.mem_of_getElem? (i := 210) rfl) rfl
theorem w451 : (Cond.instanceMethod ({ cls := "InSyncLog", name := "broker", desc := "(II)I" } : MethodName)) ∈ wsBig := wb2 (List.mem_of_getElem? (i := 211) rfl) rfl
theorem w452 : (Cond.selects "InSyncLog" ({ cls := "InSyncLog", name := "broker", desc := "(II)I" } : MethodName) ({ cls := "InSyncLog", name := "broker", desc := "(II)I" } : MethodName)) ∈ wsBig := wb2 (List.mem_of_getElem? (i := 212) rfl) rfl
theorem w453 : (Cond.code ({ cls := "InSyncLog", name := "broker", desc := "(II)I" } : MethodName) prog_1_method_18_code (3 : Nat) (Option.some FieldType.int)) ∈ wsBig := wb2 (List.mem_of_getElem? (i := 213) rfl) rfl
theorem w454 : (Cond.methodLinkNest "InSyncLog" (173 : Nat) ({ cls := "InSyncLog$Broker", name := "fact", desc := "(I)I" } : MethodName) "InSyncLog") ∈ xnl := wn2 (List.mem_of_getElem? (i := 214) rfl) rfl
theorem w456 : (Cond.instanceMethod ({ cls := "InSyncLog$Broker", name := "fact", desc := "(I)I" } : MethodName)) ∈ wsBig := wb2 (List.mem_of_getElem? (i := 216) rfl) rfl
theorem w457 : (Cond.code ({ cls := "InSyncLog$Broker", name := "fact", desc := "(I)I" } : MethodName) prog_2_method_3_code (2 : Nat) (Option.some FieldType.int)) ∈ wsBig := wb2 (List.mem_of_getElem? (i := 217) rfl) rfl
theorem w458 : (Cond.methodLink "InSyncLogLaw" (93 : Nat) ({ cls := "InSyncLog", name := "epochAt", desc := "(II)I" } : MethodName)) ∈ wsBig := wb2 (List.mem_of_getElem? (i := 218) rfl) rfl
theorem w459 : (Cond.instanceMethod ({ cls := "InSyncLog", name := "epochAt", desc := "(II)I" } : MethodName)) ∈ wsBig := wb2 (List.mem_of_getElem? (i := 219) rfl) rfl
theorem w460 : (Cond.selects "InSyncLog" ({ cls := "InSyncLog", name := "epochAt", desc := "(II)I" } : MethodName) ({ cls := "InSyncLog", name := "epochAt", desc := "(II)I" } : MethodName)) ∈ wsBig := wb2 (List.mem_of_getElem? (i := 220) rfl) rfl
theorem w461 : (Cond.code ({ cls := "InSyncLog", name := "epochAt", desc := "(II)I" } : MethodName) prog_1_method_19_code (3 : Nat) (Option.some FieldType.int)) ∈ wsBig := wb2 (List.mem_of_getElem? (i := 221) rfl) rfl
theorem w462 : (Cond.methodLinkNest "InSyncLog" (176 : Nat) ({ cls := "InSyncLog$Log", name := "stampOf", desc := "(I)I" } : MethodName) "InSyncLog") ∈ xnl := wn2 (List.mem_of_getElem? (i := 222) rfl) rfl
theorem w463 : (Cond.methodLink "InSyncLogLaw" (97 : Nat) ({ cls := "InSyncLog", name := "valueAt", desc := "(II)I" } : MethodName)) ∈ wsBig := wb2 (List.mem_of_getElem? (i := 223) rfl) rfl
theorem w464 : (Cond.instanceMethod ({ cls := "InSyncLog", name := "valueAt", desc := "(II)I" } : MethodName)) ∈ wsBig := wb2 (List.mem_of_getElem? (i := 224) rfl) rfl
theorem w465 : (Cond.selects "InSyncLog" ({ cls := "InSyncLog", name := "valueAt", desc := "(II)I" } : MethodName) ({ cls := "InSyncLog", name := "valueAt", desc := "(II)I" } : MethodName)) ∈ wsBig := wb2 (List.mem_of_getElem? (i := 225) rfl) rfl
theorem w466 : (Cond.code ({ cls := "InSyncLog", name := "valueAt", desc := "(II)I" } : MethodName) prog_1_method_20_code (3 : Nat) (Option.some FieldType.int)) ∈ wsBig := wb2 (List.mem_of_getElem? (i := 226) rfl) rfl
theorem w467 : (Cond.methodLink "InSyncLogLaw" (9 : Nat) ({ cls := "InSyncLogLaw", name := "cell", desc := "([II)I" } : MethodName)) ∈ wsBig := wb2 (List.mem_of_getElem? (i := 227) rfl) rfl
theorem w468 : (Cond.static ({ cls := "InSyncLogLaw", name := "cell", desc := "([II)I" } : MethodName)) ∈ wsBig := wb2 (List.mem_of_getElem? (i := 228) rfl) rfl
theorem w469 : (Cond.code ({ cls := "InSyncLogLaw", name := "cell", desc := "([II)I" } : MethodName) method_2_code (2 : Nat) (Option.some FieldType.int)) ∈ wsBig := wb2 (List.mem_of_getElem? (i := 229) rfl) rfl
theorem w470 : (Cond.classLink "InSyncLogLaw" (18 : Nat) "InSyncLogModel") ∈ wsBig := wb2 (List.mem_of_getElem? (i := 230) rfl) rfl
theorem w471 : (Cond.instantiable "InSyncLogModel" (34 : Nat)) ∈ wsBig := wb2 (List.mem_of_getElem? (i := 231) rfl) rfl
theorem w472 : (Cond.methodLink "InSyncLogLaw" (20 : Nat) ({ cls := "InSyncLogModel", name := "<init>", desc := "(III)V" } : MethodName)) ∈ wsBig := wb2 (List.mem_of_getElem? (i := 232) rfl) rfl
theorem w473 : (Cond.instanceMethod ({ cls := "InSyncLogModel", name := "<init>", desc := "(III)V" } : MethodName)) ∈ wsBig := wb2 (List.mem_of_getElem? (i := 233) rfl) rfl
theorem w474 : (Cond.code ({ cls := "InSyncLogModel", name := "<init>", desc := "(III)V" } : MethodName) prog_8_method_1_code (5 : Nat) (Option.none : Option FieldType)) ∈ wsBig := wb2 (List.mem_of_getElem? (i := 234) rfl) rfl
theorem w475 : (Cond.methodLink "InSyncLogModel" (1 : Nat) ({ cls := "java/lang/Object", name := "<init>", desc := "()V" } : MethodName)) ∈ wsBig := wb2 (List.mem_of_getElem? (i := 235) rfl) rfl
theorem w476 : (Cond.methodLink "InSyncLogModel" (102 : Nat) ({ cls := "InSyncLogModel", name := "takeOver", desc := "(I)V" } : MethodName)) ∈ wsBig := wb2 (List.mem_of_getElem? (i := 236) rfl) rfl
theorem w478 : (Cond.instanceMethod ({ cls := "InSyncLogModel", name := "takeOver", desc := "(I)V" } : MethodName)) ∈ wsBig := wb2 (List.mem_of_getElem? (i := 238) rfl) rfl
theorem w479 : (Cond.code ({ cls := "InSyncLogModel", name := "takeOver", desc := "(I)V" } : MethodName) prog_8_method_4_code (3 : Nat) (Option.none : Option FieldType)) ∈ wsBig := wb2 (List.mem_of_getElem? (i := 239) rfl) rfl
theorem w480 : (Cond.fieldLink "InSyncLogModel" (93 : Nat) "InSyncLogModel" "lag" "I") ∈ wsBig := wb3 (List.mem_of_getElem? (i := 0) rfl) rfl
theorem w481 : (Cond.fieldLink "InSyncLogModel" (96 : Nat) "InSyncLogModel" "batch" "I") ∈ wsBig := wb3 (List.mem_of_getElem? (i := 1) rfl) rfl
theorem w482 : (Cond.fieldLink "InSyncLogModel" (99 : Nat) "InSyncLogModel" "least" "I") ∈ wsBig := wb3 (List.mem_of_getElem? (i := 2) rfl) rfl
theorem w483 : (Cond.fieldLink "InSyncLogModel" (110 : Nat) "InSyncLogModel" "time" "I") ∈ wsBig := wb3 (List.mem_of_getElem? (i := 3) rfl) rfl
theorem w484 : (Cond.fieldLink "InSyncLogModel" (7 : Nat) "InSyncLogModel" "epoch" "I") ∈ wsBig := wb3 (List.mem_of_getElem? (i := 4) rfl) rfl
theorem w485 : (Cond.fieldLink "InSyncLogModel" (174 : Nat) "InSyncLogModel" "leader" "I") ∈ wsBig := wb3 (List.mem_of_getElem? (i := 5) rfl) rfl
theorem w486 : (Cond.fieldLink "InSyncLogModel" (13 : Nat) "InSyncLogModel" "inSync" "[Z") ∈ wsBig := wb3 (List.mem_of_getElem? (i := 6) rfl) rfl
theorem w487 : (Cond.fieldLink "InSyncLogModel" (117 : Nat) "InSyncLogModel" "records" "I") ∈ wsBig := wb3 (List.mem_of_getElem? (i := 7) rfl) rfl
theorem w488 : (Cond.fieldLink "InSyncLogModel" (17 : Nat) "InSyncLogModel" "before" "[I") ∈ wsBig := wb3 (List.mem_of_getElem? (i := 8) rfl) rfl
theorem w489 : (Cond.fieldLink "InSyncLogModel" (21 : Nat) "InSyncLogModel" "depth" "[I") ∈ wsBig := wb3 (List.mem_of_getElem? (i := 9) rfl) rfl
theorem w490 : (Cond.fieldLink "InSyncLogModel" (24 : Nat) "InSyncLogModel" "recordEpoch" "[I") ∈ wsBig := wb3 (List.mem_of_getElem? (i := 10) rfl) rfl
theorem w491 : (Cond.fieldLink "InSyncLogModel" (27 : Nat) "InSyncLogModel" "recordValue" "[I") ∈ wsBig := wb3 (List.mem_of_getElem? (i := 11) rfl) rfl
theorem w492 : (Cond.fieldLink "InSyncLogModel" (30 : Nat) "InSyncLogModel" "recordMark" "[Z") ∈ wsBig := wb3 (List.mem_of_getElem? (i := 12) rfl) rfl
theorem w493 : (Cond.fieldLink "InSyncLogModel" (33 : Nat) "InSyncLogModel" "last" "[I") ∈ wsBig := wb3 (List.mem_of_getElem? (i := 13) rfl) rfl
theorem w494 : (Cond.fieldLink "InSyncLogModel" (36 : Nat) "InSyncLogModel" "high" "[I") ∈ wsBig := wb3 (List.mem_of_getElem? (i := 14) rfl) rfl
theorem w495 : (Cond.fieldLink "InSyncLogModel" (39 : Nat) "InSyncLogModel" "up" "[Z") ∈ wsBig := wb3 (List.mem_of_getElem? (i := 15) rfl) rfl
theorem w496 : (Cond.fieldLink "InSyncLogModel" (42 : Nat) "InSyncLogModel" "knownEpoch" "[I") ∈ wsBig := wb3 (List.mem_of_getElem? (i := 16) rfl) rfl
theorem w497 : (Cond.fieldLink "InSyncLogModel" (45 : Nat) "InSyncLogModel" "knownLeader" "[I") ∈ wsBig := wb3 (List.mem_of_getElem? (i := 17) rfl) rfl
theorem w498 : (Cond.fieldLink "InSyncLogModel" (48 : Nat) "InSyncLogModel" "latest" "[I") ∈ wsBig := wb3 (List.mem_of_getElem? (i := 18) rfl) rfl
theorem w499 : (Cond.fieldLink "InSyncLogModel" (51 : Nat) "InSyncLogModel" "awaited" "[Z") ∈ wsBig := wb3 (List.mem_of_getElem? (i := 19) rfl) rfl
theorem w500 : (Cond.fieldLink "InSyncLogModel" (54 : Nat) "InSyncLogModel" "sync" "[Z") ∈ wsBig := wb3 (List.mem_of_getElem? (i := 20) rfl) rfl
theorem w501 : (Cond.fieldLink "InSyncLogModel" (57 : Nat) "InSyncLogModel" "fetched" "[I") ∈ wsBig := wb3 (List.mem_of_getElem? (i := 21) rfl) rfl
theorem w502 : (Cond.fieldLink "InSyncLogModel" (60 : Nat) "InSyncLogModel" "caught" "[I") ∈ wsBig := wb3 (List.mem_of_getElem? (i := 22) rfl) rfl
theorem w503 : (Cond.fieldLink "InSyncLogModel" (63 : Nat) "InSyncLogModel" "start" "[I") ∈ wsBig := wb3 (List.mem_of_getElem? (i := 23) rfl) rfl
theorem w504 : (Cond.fieldLink "InSyncLogModel" (137 : Nat) "InSyncLogModel" "count" "I") ∈ wsBig := wb3 (List.mem_of_getElem? (i := 24) rfl) rfl
theorem w505 : (Cond.fieldLink "InSyncLogModel" (66 : Nat) "InSyncLogModel" "kind" "[I") ∈ wsBig := wb3 (List.mem_of_getElem? (i := 25) rfl) rfl
theorem w506 : (Cond.fieldLink "InSyncLogModel" (69 : Nat) "InSyncLogModel" "from" "[I") ∈ wsBig := wb3 (List.mem_of_getElem? (i := 26) rfl) rfl
theorem w507 : (Cond.fieldLink "InSyncLogModel" (72 : Nat) "InSyncLogModel" "to" "[I") ∈ wsBig := wb3 (List.mem_of_getElem? (i := 27) rfl) rfl
theorem w508 : (Cond.fieldLink "InSyncLogModel" (75 : Nat) "InSyncLogModel" "bears" "[I") ∈ wsBig := wb3 (List.mem_of_getElem? (i := 28) rfl) rfl
theorem w509 : (Cond.fieldLink "InSyncLogModel" (78 : Nat) "InSyncLogModel" "number" "[I") ∈ wsBig := wb3 (List.mem_of_getElem? (i := 29) rfl) rfl
theorem w510 : (Cond.fieldLink "InSyncLogModel" (81 : Nat) "InSyncLogModel" "five" "[I") ∈ wsBig := wb3 (List.mem_of_getElem? (i := 30) rfl) rfl
theorem w511 : (Cond.fieldLink "InSyncLogModel" (84 : Nat) "InSyncLogModel" "six" "[I") ∈ wsBig := wb3 (List.mem_of_getElem? (i := 31) rfl) rfl
theorem w512 : (Cond.fieldLink "InSyncLogModel" (87 : Nat) "InSyncLogModel" "load" "[I") ∈ wsBig := wb3 (List.mem_of_getElem? (i := 32) rfl) rfl
theorem w513 : (Cond.fieldLink "InSyncLogModel" (90 : Nat) "InSyncLogModel" "now" "[I") ∈ wsBig := wb3 (List.mem_of_getElem? (i := 33) rfl) rfl
theorem w514 : (Cond.laysFinal "InSyncLogModel" "InSyncLogModel" "lag" "I") ∈ wsBig := wb3 (List.mem_of_getElem? (i := 34) rfl) rfl
theorem w516 : (Cond.laysFinal "InSyncLogModel" "InSyncLogModel" "batch" "I") ∈ wsBig := wb3 (List.mem_of_getElem? (i := 36) rfl) rfl
theorem w518 : (Cond.laysFinal "InSyncLogModel" "InSyncLogModel" "least" "I") ∈ wsBig := wb3 (List.mem_of_getElem? (i := 38) rfl) rfl
theorem w520 : (Cond.lays "InSyncLogModel" "InSyncLogModel" "time" "I") ∈ wsBig := wb3 (List.mem_of_getElem? (i := 40) rfl) rfl
theorem w522 : (Cond.lays "InSyncLogModel" "InSyncLogModel" "epoch" "I") ∈ wsBig := wb3 (List.mem_of_getElem? (i := 42) rfl) rfl
theorem w524 : (Cond.lays "InSyncLogModel" "InSyncLogModel" "leader" "I") ∈ wsBig := wb3 (List.mem_of_getElem? (i := 44) rfl) rfl
theorem w526 : (Cond.laysFinal "InSyncLogModel" "InSyncLogModel" "inSync" "[Z") ∈ wsBig := wb3 (List.mem_of_getElem? (i := 46) rfl) rfl
theorem w528 : (Cond.lays "InSyncLogModel" "InSyncLogModel" "records" "I") ∈ wsBig := wb3 (List.mem_of_getElem? (i := 48) rfl) rfl
theorem w530 : (Cond.laysFinal "InSyncLogModel" "InSyncLogModel" "before" "[I") ∈ wsBig := wb3 (List.mem_of_getElem? (i := 50) rfl) rfl
theorem w532 : (Cond.laysFinal "InSyncLogModel" "InSyncLogModel" "depth" "[I") ∈ wsBig := wb3 (List.mem_of_getElem? (i := 52) rfl) rfl
theorem w534 : (Cond.laysFinal "InSyncLogModel" "InSyncLogModel" "recordEpoch" "[I") ∈ wsBig := wb3 (List.mem_of_getElem? (i := 54) rfl) rfl
theorem w536 : (Cond.laysFinal "InSyncLogModel" "InSyncLogModel" "recordValue" "[I") ∈ wsBig := wb3 (List.mem_of_getElem? (i := 56) rfl) rfl
theorem w538 : (Cond.laysFinal "InSyncLogModel" "InSyncLogModel" "recordMark" "[Z") ∈ wsBig := wb3 (List.mem_of_getElem? (i := 58) rfl) rfl
theorem w540 : (Cond.laysFinal "InSyncLogModel" "InSyncLogModel" "last" "[I") ∈ wsBig := wb3 (List.mem_of_getElem? (i := 60) rfl) rfl
theorem w542 : (Cond.laysFinal "InSyncLogModel" "InSyncLogModel" "high" "[I") ∈ wsBig := wb3 (List.mem_of_getElem? (i := 62) rfl) rfl
theorem w544 : (Cond.laysFinal "InSyncLogModel" "InSyncLogModel" "up" "[Z") ∈ wsBig := wb3 (List.mem_of_getElem? (i := 64) rfl) rfl
theorem w546 : (Cond.laysFinal "InSyncLogModel" "InSyncLogModel" "knownEpoch" "[I") ∈ wsBig := wb3 (List.mem_of_getElem? (i := 66) rfl) rfl
theorem w548 : (Cond.laysFinal "InSyncLogModel" "InSyncLogModel" "knownLeader" "[I") ∈ wsBig := wb3 (List.mem_of_getElem? (i := 68) rfl) rfl
theorem w550 : (Cond.laysFinal "InSyncLogModel" "InSyncLogModel" "latest" "[I") ∈ wsBig := wb3 (List.mem_of_getElem? (i := 70) rfl) rfl
theorem w552 : (Cond.laysFinal "InSyncLogModel" "InSyncLogModel" "awaited" "[Z") ∈ wsBig := wb3 (List.mem_of_getElem? (i := 72) rfl) rfl
theorem w554 : (Cond.laysFinal "InSyncLogModel" "InSyncLogModel" "sync" "[Z") ∈ wsBig := wb3 (List.mem_of_getElem? (i := 74) rfl) rfl
theorem w556 : (Cond.laysFinal "InSyncLogModel" "InSyncLogModel" "fetched" "[I") ∈ wsBig := wb3 (List.mem_of_getElem? (i := 76) rfl) rfl
theorem w558 : (Cond.laysFinal "InSyncLogModel" "InSyncLogModel" "caught" "[I") ∈ wsBig := wb3 (List.mem_of_getElem? (i := 78) rfl) rfl
theorem w560 : (Cond.laysFinal "InSyncLogModel" "InSyncLogModel" "start" "[I") ∈ wsBig := wb3 (List.mem_of_getElem? (i := 80) rfl) rfl
theorem w562 : (Cond.lays "InSyncLogModel" "InSyncLogModel" "count" "I") ∈ wsBig := wb3 (List.mem_of_getElem? (i := 82) rfl) rfl
theorem w564 : (Cond.laysFinal "InSyncLogModel" "InSyncLogModel" "kind" "[I") ∈ wsBig := wb3 (List.mem_of_getElem? (i := 84) rfl) rfl
theorem w566 : (Cond.laysFinal "InSyncLogModel" "InSyncLogModel" "from" "[I") ∈ wsBig := wb3 (List.mem_of_getElem? (i := 86) rfl) rfl
theorem w568 : (Cond.laysFinal "InSyncLogModel" "InSyncLogModel" "to" "[I") ∈ wsBig := wb3 (List.mem_of_getElem? (i := 88) rfl) rfl
theorem w570 : (Cond.laysFinal "InSyncLogModel" "InSyncLogModel" "bears" "[I") ∈ wsBig := wb3 (List.mem_of_getElem? (i := 90) rfl) rfl
theorem w572 : (Cond.laysFinal "InSyncLogModel" "InSyncLogModel" "number" "[I") ∈ wsBig := wb3 (List.mem_of_getElem? (i := 92) rfl) rfl
theorem w574 : (Cond.laysFinal "InSyncLogModel" "InSyncLogModel" "five" "[I") ∈ wsBig := wb3 (List.mem_of_getElem? (i := 94) rfl) rfl
theorem w576 : (Cond.laysFinal "InSyncLogModel" "InSyncLogModel" "six" "[I") ∈ wsBig := wb3 (List.mem_of_getElem? (i := 96) rfl) rfl
theorem w578 : (Cond.laysFinal "InSyncLogModel" "InSyncLogModel" "load" "[I") ∈ wsBig := wb3 (List.mem_of_getElem? (i := 98) rfl) rfl
theorem w580 : (Cond.laysFinal "InSyncLogModel" "InSyncLogModel" "now" "[I") ∈ wsBig := wb3 (List.mem_of_getElem? (i := 100) rfl) rfl
theorem w583 : (Cond.arrayClass FieldType.boolean) ∈ wsBig := wb3 (List.mem_of_getElem? (i := 103) rfl) rfl
theorem w584 : (Cond.methodLink "InSyncLogLaw" (25 : Nat) ({ cls := "InSyncLogModel", name := "produce", desc := "(II)I" } : MethodName)) ∈ wsBig := wb3 (List.mem_of_getElem? (i := 104) rfl) rfl
theorem w585 : (Cond.instanceMethod ({ cls := "InSyncLogModel", name := "produce", desc := "(II)I" } : MethodName)) ∈ wsBig := wb3 (List.mem_of_getElem? (i := 105) rfl) rfl
theorem w586 : (Cond.selects "InSyncLogModel" ({ cls := "InSyncLogModel", name := "produce", desc := "(II)I" } : MethodName) ({ cls := "InSyncLogModel", name := "produce", desc := "(II)I" } : MethodName)) ∈ wsBig := wb3 (List.mem_of_getElem? (i := 106) rfl) rfl
theorem w587 : (Cond.code ({ cls := "InSyncLogModel", name := "produce", desc := "(II)I" } : MethodName) prog_8_method_10_code (3 : Nat) (Option.some FieldType.int)) ∈ wsBig := wb3 (List.mem_of_getElem? (i := 107) rfl) rfl
theorem w588 : (Cond.methodLink "InSyncLogModel" (123 : Nat) ({ cls := "InSyncLogModel", name := "leads", desc := "(I)Z" } : MethodName)) ∈ wsBig := wb3 (List.mem_of_getElem? (i := 108) rfl) rfl
theorem w590 : (Cond.instanceMethod ({ cls := "InSyncLogModel", name := "leads", desc := "(I)Z" } : MethodName)) ∈ wsBig := wb3 (List.mem_of_getElem? (i := 110) rfl) rfl
theorem w591 : (Cond.code ({ cls := "InSyncLogModel", name := "leads", desc := "(I)Z" } : MethodName) prog_8_method_3_code (2 : Nat) (Option.some FieldType.boolean)) ∈ wsBig := wb3 (List.mem_of_getElem? (i := 111) rfl) rfl
theorem w592 : (Cond.methodLink "InSyncLogModel" (106 : Nat) ({ cls := "InSyncLogModel", name := "isBroker", desc := "(I)Z" } : MethodName)) ∈ wsBig := wb3 (List.mem_of_getElem? (i := 112) rfl) rfl
theorem w593 : (Cond.static ({ cls := "InSyncLogModel", name := "isBroker", desc := "(I)Z" } : MethodName)) ∈ wsBig := wb3 (List.mem_of_getElem? (i := 113) rfl) rfl
theorem w594 : (Cond.code ({ cls := "InSyncLogModel", name := "isBroker", desc := "(I)Z" } : MethodName) prog_8_method_2_code (1 : Nat) (Option.some FieldType.boolean)) ∈ wsBig := wb3 (List.mem_of_getElem? (i := 114) rfl) rfl
theorem w595 : (Cond.methodLink "InSyncLogModel" (126 : Nat) ({ cls := "InSyncLogModel", name := "append", desc := "(IIZ)I" } : MethodName)) ∈ wsBig := wb3 (List.mem_of_getElem? (i := 115) rfl) rfl
theorem w597 : (Cond.instanceMethod ({ cls := "InSyncLogModel", name := "append", desc := "(IIZ)I" } : MethodName)) ∈ wsBig := wb3 (List.mem_of_getElem? (i := 117) rfl) rfl
theorem w598 : (Cond.code ({ cls := "InSyncLogModel", name := "append", desc := "(IIZ)I" } : MethodName) prog_8_method_9_code (4 : Nat) (Option.some FieldType.int)) ∈ wsBig := wb3 (List.mem_of_getElem? (i := 118) rfl) rfl
theorem w599 : (Cond.methodLink "InSyncLogModel" (113 : Nat) ({ cls := "InSyncLogModel", name := "syncSize", desc := "(I)I" } : MethodName)) ∈ wsBig := wb3 (List.mem_of_getElem? (i := 119) rfl) rfl
theorem w601 : (Cond.instanceMethod ({ cls := "InSyncLogModel", name := "syncSize", desc := "(I)I" } : MethodName)) ∈ wsBig := wb3 (List.mem_of_getElem? (i := 121) rfl) rfl
theorem w602 : (Cond.code ({ cls := "InSyncLogModel", name := "syncSize", desc := "(I)I" } : MethodName) prog_8_method_5_code (4 : Nat) (Option.some FieldType.int)) ∈ wsBig := wb3 (List.mem_of_getElem? (i := 122) rfl) rfl
theorem w603 : (Cond.methodLink "InSyncLogModel" (120 : Nat) ({ cls := "InSyncLogModel", name := "rise", desc := "(I)V" } : MethodName)) ∈ wsBig := wb3 (List.mem_of_getElem? (i := 123) rfl) rfl
theorem w605 : (Cond.instanceMethod ({ cls := "InSyncLogModel", name := "rise", desc := "(I)V" } : MethodName)) ∈ wsBig := wb3 (List.mem_of_getElem? (i := 125) rfl) rfl
theorem w606 : (Cond.code ({ cls := "InSyncLogModel", name := "rise", desc := "(I)V" } : MethodName) prog_8_method_6_code (5 : Nat) (Option.none : Option FieldType)) ∈ wsBig := wb3 (List.mem_of_getElem? (i := 126) rfl) rfl
theorem w607 : (Cond.methodLink "InSyncLogLaw" (29 : Nat) ({ cls := "InSyncLogModel", name := "commit", desc := "(II)I" } : MethodName)) ∈ wsBig := wb3 (List.mem_of_getElem? (i := 127) rfl) rfl
theorem w608 : (Cond.instanceMethod ({ cls := "InSyncLogModel", name := "commit", desc := "(II)I" } : MethodName)) ∈ wsBig := wb3 (List.mem_of_getElem? (i := 128) rfl) rfl
theorem w609 : (Cond.selects "InSyncLogModel" ({ cls := "InSyncLogModel", name := "commit", desc := "(II)I" } : MethodName) ({ cls := "InSyncLogModel", name := "commit", desc := "(II)I" } : MethodName)) ∈ wsBig := wb3 (List.mem_of_getElem? (i := 129) rfl) rfl
theorem w610 : (Cond.code ({ cls := "InSyncLogModel", name := "commit", desc := "(II)I" } : MethodName) prog_8_method_11_code (3 : Nat) (Option.some FieldType.int)) ∈ wsBig := wb3 (List.mem_of_getElem? (i := 130) rfl) rfl
theorem w611 : (Cond.methodLink "InSyncLogLaw" (33 : Nat) ({ cls := "InSyncLogModel", name := "readable", desc := "(II)I" } : MethodName)) ∈ wsBig := wb3 (List.mem_of_getElem? (i := 131) rfl) rfl
theorem w612 : (Cond.instanceMethod ({ cls := "InSyncLogModel", name := "readable", desc := "(II)I" } : MethodName)) ∈ wsBig := wb3 (List.mem_of_getElem? (i := 132) rfl) rfl
theorem w613 : (Cond.selects "InSyncLogModel" ({ cls := "InSyncLogModel", name := "readable", desc := "(II)I" } : MethodName) ({ cls := "InSyncLogModel", name := "readable", desc := "(II)I" } : MethodName)) ∈ wsBig := wb3 (List.mem_of_getElem? (i := 133) rfl) rfl
theorem w614 : (Cond.code ({ cls := "InSyncLogModel", name := "readable", desc := "(II)I" } : MethodName) prog_8_method_13_code (4 : Nat) (Option.some FieldType.int)) ∈ wsBig := wb3 (List.mem_of_getElem? (i := 134) rfl) rfl
theorem w615 : (Cond.methodLink "InSyncLogModel" (134 : Nat) ({ cls := "InSyncLogModel", name := "recordAt", desc := "(II)I" } : MethodName)) ∈ wsBig := wb3 (List.mem_of_getElem? (i := 135) rfl) rfl
theorem w617 : (Cond.instanceMethod ({ cls := "InSyncLogModel", name := "recordAt", desc := "(II)I" } : MethodName)) ∈ wsBig := wb3 (List.mem_of_getElem? (i := 137) rfl) rfl
theorem w618 : (Cond.code ({ cls := "InSyncLogModel", name := "recordAt", desc := "(II)I" } : MethodName) prog_8_method_12_code (3 : Nat) (Option.some FieldType.int)) ∈ wsBig := wb3 (List.mem_of_getElem? (i := 138) rfl) rfl
theorem w619 : (Cond.methodLink "InSyncLogModel" (130 : Nat) ({ cls := "InSyncLogModel", name := "upTo", desc := "(II)I" } : MethodName)) ∈ wsBig := wb3 (List.mem_of_getElem? (i := 139) rfl) rfl
theorem w621 : (Cond.instanceMethod ({ cls := "InSyncLogModel", name := "upTo", desc := "(II)I" } : MethodName)) ∈ wsBig := wb3 (List.mem_of_getElem? (i := 141) rfl) rfl
theorem w622 : (Cond.code ({ cls := "InSyncLogModel", name := "upTo", desc := "(II)I" } : MethodName) prog_8_method_7_code (4 : Nat) (Option.some FieldType.int)) ∈ wsBig := wb3 (List.mem_of_getElem? (i := 142) rfl) rfl
theorem w623 : (Cond.methodLink "InSyncLogLaw" (38 : Nat) ({ cls := "InSyncLogModel", name := "committed", desc := "(I)I" } : MethodName)) ∈ wsBig := wb3 (List.mem_of_getElem? (i := 143) rfl) rfl
theorem w624 : (Cond.instanceMethod ({ cls := "InSyncLogModel", name := "committed", desc := "(I)I" } : MethodName)) ∈ wsBig := wb3 (List.mem_of_getElem? (i := 144) rfl) rfl
theorem w625 : (Cond.selects "InSyncLogModel" ({ cls := "InSyncLogModel", name := "committed", desc := "(I)I" } : MethodName) ({ cls := "InSyncLogModel", name := "committed", desc := "(I)I" } : MethodName)) ∈ wsBig := wb3 (List.mem_of_getElem? (i := 145) rfl) rfl
theorem w626 : (Cond.code ({ cls := "InSyncLogModel", name := "committed", desc := "(I)I" } : MethodName) prog_8_method_14_code (3 : Nat) (Option.some FieldType.int)) ∈ wsBig := wb3 (List.mem_of_getElem? (i := 146) rfl) rfl
theorem w627 : (Cond.methodLink "InSyncLogLaw" (96 : Nat) ({ cls := "InSyncLogModel", name := "epochAt", desc := "(II)I" } : MethodName)) ∈ wsBig := wb3 (List.mem_of_getElem? (i := 147) rfl) rfl
theorem w628 : (Cond.instanceMethod ({ cls := "InSyncLogModel", name := "epochAt", desc := "(II)I" } : MethodName)) ∈ wsBig := wb3 (List.mem_of_getElem? (i := 148) rfl) rfl
theorem w629 : (Cond.selects "InSyncLogModel" ({ cls := "InSyncLogModel", name := "epochAt", desc := "(II)I" } : MethodName) ({ cls := "InSyncLogModel", name := "epochAt", desc := "(II)I" } : MethodName)) ∈ wsBig := wb3 (List.mem_of_getElem? (i := 149) rfl) rfl
theorem w630 : (Cond.code ({ cls := "InSyncLogModel", name := "epochAt", desc := "(II)I" } : MethodName) prog_8_method_15_code (4 : Nat) (Option.some FieldType.int)) ∈ wsBig := wb3 (List.mem_of_getElem? (i := 150) rfl) rfl
theorem w631 : (Cond.methodLink "InSyncLogLaw" (100 : Nat) ({ cls := "InSyncLogModel", name := "valueAt", desc := "(II)I" } : MethodName)) ∈ wsBig := wb3 (List.mem_of_getElem? (i := 151) rfl) rfl
theorem w632 : (Cond.instanceMethod ({ cls := "InSyncLogModel", name := "valueAt", desc := "(II)I" } : MethodName)) ∈ wsBig := wb3 (List.mem_of_getElem? (i := 152) rfl) rfl
theorem w633 : (Cond.selects "InSyncLogModel" ({ cls := "InSyncLogModel", name := "valueAt", desc := "(II)I" } : MethodName) ({ cls := "InSyncLogModel", name := "valueAt", desc := "(II)I" } : MethodName)) ∈ wsBig := wb3 (List.mem_of_getElem? (i := 153) rfl) rfl
theorem w634 : (Cond.code ({ cls := "InSyncLogModel", name := "valueAt", desc := "(II)I" } : MethodName) prog_8_method_16_code (4 : Nat) (Option.some FieldType.int)) ∈ wsBig := wb3 (List.mem_of_getElem? (i := 154) rfl) rfl
theorem w635 : (Cond.methodLink "InSyncLogLaw" (43 : Nat) ({ cls := "InSyncLogModel", name := "fetch", desc := "(I)Z" } : MethodName)) ∈ wsBig := wb3 (List.mem_of_getElem? (i := 155) rfl) rfl
theorem w636 : (Cond.instanceMethod ({ cls := "InSyncLogModel", name := "fetch", desc := "(I)Z" } : MethodName)) ∈ wsBig := wb3 (List.mem_of_getElem? (i := 156) rfl) rfl
theorem w637 : (Cond.selects "InSyncLogModel" ({ cls := "InSyncLogModel", name := "fetch", desc := "(I)Z" } : MethodName) ({ cls := "InSyncLogModel", name := "fetch", desc := "(I)Z" } : MethodName)) ∈ wsBig := wb3 (List.mem_of_getElem? (i := 157) rfl) rfl
theorem w638 : (Cond.code ({ cls := "InSyncLogModel", name := "fetch", desc := "(I)Z" } : MethodName) prog_8_method_21_code (3 : Nat) (Option.some FieldType.boolean)) ∈ wsBig := wb3 (List.mem_of_getElem? (i := 158) rfl) rfl
theorem w639 : (Cond.methodLink "InSyncLogModel" (144 : Nat) ({ cls := "InSyncLogModel", name := "send", desc := "(IIIIIII)Z" } : MethodName)) ∈ wsBig := wb3 (List.mem_of_getElem? (i := 159) rfl) rfl
theorem w641 : (Cond.instanceMethod ({ cls := "InSyncLogModel", name := "send", desc := "(IIIIIII)Z" } : MethodName)) ∈ wsBig := wb3 (List.mem_of_getElem? (i := 161) rfl) rfl
theorem w642 : (Cond.code ({ cls := "InSyncLogModel", name := "send", desc := "(IIIIIII)Z" } : MethodName) prog_8_method_18_code (8 : Nat) (Option.some FieldType.boolean)) ∈ wsBig := wb3 (List.mem_of_getElem? (i := 162) rfl) rfl
theorem w643 : (Cond.methodLink "InSyncLogLaw" (51 : Nat) ({ cls := "InSyncLogModel", name := "lose", desc := "(I)Z" } : MethodName)) ∈ wsBig := wb3 (List.mem_of_getElem? (i := 163) rfl) rfl
theorem w644 : (Cond.instanceMethod ({ cls := "InSyncLogModel", name := "lose", desc := "(I)Z" } : MethodName)) ∈ wsBig := wb3 (List.mem_of_getElem? (i := 164) rfl) rfl
theorem w645 : (Cond.selects "InSyncLogModel" ({ cls := "InSyncLogModel", name := "lose", desc := "(I)Z" } : MethodName) ({ cls := "InSyncLogModel", name := "lose", desc := "(I)Z" } : MethodName)) ∈ wsBig := wb3 (List.mem_of_getElem? (i := 165) rfl) rfl
theorem w646 : (Cond.code ({ cls := "InSyncLogModel", name := "lose", desc := "(I)Z" } : MethodName) prog_8_method_22_code (2 : Nat) (Option.some FieldType.boolean)) ∈ wsBig := wb3 (List.mem_of_getElem? (i := 166) rfl) rfl
theorem w647 : (Cond.methodLink "InSyncLogModel" (148 : Nat) ({ cls := "InSyncLogModel", name := "isMessage", desc := "(I)Z" } : MethodName)) ∈ wsBig := wb3 (List.mem_of_getElem? (i := 167) rfl) rfl
theorem w649 : (Cond.instanceMethod ({ cls := "InSyncLogModel", name := "isMessage", desc := "(I)Z" } : MethodName)) ∈ wsBig := wb3 (List.mem_of_getElem? (i := 169) rfl) rfl
theorem w650 : (Cond.code ({ cls := "InSyncLogModel", name := "isMessage", desc := "(I)Z" } : MethodName) prog_8_method_17_code (2 : Nat) (Option.some FieldType.boolean)) ∈ wsBig := wb3 (List.mem_of_getElem? (i := 170) rfl) rfl
theorem w651 : (Cond.methodLink "InSyncLogModel" (151 : Nat) ({ cls := "InSyncLogModel", name := "remove", desc := "(I)V" } : MethodName)) ∈ wsBig := wb3 (List.mem_of_getElem? (i := 171) rfl) rfl
theorem w653 : (Cond.instanceMethod ({ cls := "InSyncLogModel", name := "remove", desc := "(I)V" } : MethodName)) ∈ wsBig := wb3 (List.mem_of_getElem? (i := 173) rfl) rfl
theorem w654 : (Cond.code ({ cls := "InSyncLogModel", name := "remove", desc := "(I)V" } : MethodName) prog_8_method_20_code (3 : Nat) (Option.none : Option FieldType)) ∈ wsBig := wb3 (List.mem_of_getElem? (i := 174) rfl) rfl
theorem w655 : (Cond.methodLink "InSyncLogModel" (140 : Nat) ({ cls := "InSyncLogModel", name := "move", desc := "(II)V" } : MethodName)) ∈ wsBig := wb3 (List.mem_of_getElem? (i := 175) rfl) rfl
theorem w657 : (Cond.instanceMethod ({ cls := "InSyncLogModel", name := "move", desc := "(II)V" } : MethodName)) ∈ wsBig := wb3 (List.mem_of_getElem? (i := 177) rfl) rfl
theorem w658 : (Cond.code ({ cls := "InSyncLogModel", name := "move", desc := "(II)V" } : MethodName) prog_8_method_19_code (3 : Nat) (Option.none : Option FieldType)) ∈ wsBig := wb3 (List.mem_of_getElem? (i := 178) rfl) rfl
theorem w659 : (Cond.methodLink "InSyncLogLaw" (56 : Nat) ({ cls := "InSyncLogModel", name := "flight", desc := "()I" } : MethodName)) ∈ wsBig := wb3 (List.mem_of_getElem? (i := 179) rfl) rfl
theorem w660 : (Cond.instanceMethod ({ cls := "InSyncLogModel", name := "flight", desc := "()I" } : MethodName)) ∈ wsBig := wb3 (List.mem_of_getElem? (i := 180) rfl) rfl
theorem w661 : (Cond.selects "InSyncLogModel" ({ cls := "InSyncLogModel", name := "flight", desc := "()I" } : MethodName) ({ cls := "InSyncLogModel", name := "flight", desc := "()I" } : MethodName)) ∈ wsBig := wb3 (List.mem_of_getElem? (i := 181) rfl) rfl
theorem w662 : (Cond.code ({ cls := "InSyncLogModel", name := "flight", desc := "()I" } : MethodName) prog_8_method_23_code (1 : Nat) (Option.some FieldType.int)) ∈ wsBig := wb3 (List.mem_of_getElem? (i := 182) rfl) rfl
theorem w663 : (Cond.methodLink "InSyncLogLaw" (60 : Nat) ({ cls := "InSyncLogModel", name := "message", desc := "(II)I" } : MethodName)) ∈ wsBig := wb3 (List.mem_of_getElem? (i := 183) rfl) rfl
theorem w664 : (Cond.instanceMethod ({ cls := "InSyncLogModel", name := "message", desc := "(II)I" } : MethodName)) ∈ wsBig := wb3 (List.mem_of_getElem? (i := 184) rfl) rfl
theorem w665 : (Cond.selects "InSyncLogModel" ({ cls := "InSyncLogModel", name := "message", desc := "(II)I" } : MethodName) ({ cls := "InSyncLogModel", name := "message", desc := "(II)I" } : MethodName)) ∈ wsBig := wb3 (List.mem_of_getElem? (i := 185) rfl) rfl
theorem w666 : (Cond.code ({ cls := "InSyncLogModel", name := "message", desc := "(II)I" } : MethodName) prog_8_method_24_code (3 : Nat) (Option.some FieldType.int)) ∈ wsBig := wb3 (List.mem_of_getElem? (i := 186) rfl) rfl
theorem w667 : (Cond.methodLink "InSyncLogLaw" (47 : Nat) ({ cls := "InSyncLogModel", name := "deliver", desc := "(I)Z" } : MethodName)) ∈ wsBig := wb3 (List.mem_of_getElem? (i := 187) rfl) rfl
theorem w668 : (Cond.instanceMethod ({ cls := "InSyncLogModel", name := "deliver", desc := "(I)Z" } : MethodName)) ∈ wsBig := wb3 (List.mem_of_getElem? (i := 188) rfl) rfl
theorem w669 : (Cond.selects "InSyncLogModel" ({ cls := "InSyncLogModel", name := "deliver", desc := "(I)Z" } : MethodName) ({ cls := "InSyncLogModel", name := "deliver", desc := "(I)Z" } : MethodName)) ∈ wsBig := wb3 (List.mem_of_getElem? (i := 189) rfl) rfl
theorem w670 : (Cond.code ({ cls := "InSyncLogModel", name := "deliver", desc := "(I)Z" } : MethodName) prog_8_method_25_code (4 : Nat) (Option.some FieldType.boolean)) ∈ wsBig := wb3 (List.mem_of_getElem? (i := 190) rfl) rfl
theorem w671 : (Cond.methodLink "InSyncLogModel" (154 : Nat) ({ cls := "InSyncLogModel", name := "message", desc := "(II)I" } : MethodName)) ∈ wsBig := wb3 (List.mem_of_getElem? (i := 191) rfl) rfl
theorem w672 : (Cond.methodLink "InSyncLogModel" (157 : Nat) ({ cls := "InSyncLogModel", name := "answer", desc := "(IIII)V" } : MethodName)) ∈ wsBig := wb3 (List.mem_of_getElem? (i := 192) rfl) rfl
theorem w674 : (Cond.instanceMethod ({ cls := "InSyncLogModel", name := "answer", desc := "(IIII)V" } : MethodName)) ∈ wsBig := wb3 (List.mem_of_getElem? (i := 194) rfl) rfl
theorem w675 : (Cond.code ({ cls := "InSyncLogModel", name := "answer", desc := "(IIII)V" } : MethodName) prog_8_method_26_code (8 : Nat) (Option.none : Option FieldType)) ∈ wsBig := wb3 (List.mem_of_getElem? (i := 195) rfl) rfl
theorem w676 : (Cond.methodLink "InSyncLogModel" (167 : Nat) ({ cls := "InSyncLogModel", name := "underEpoch", desc := "(II)I" } : MethodName)) ∈ wsBig := wb3 (List.mem_of_getElem? (i := 196) rfl) rfl
theorem w678 : (Cond.instanceMethod ({ cls := "InSyncLogModel", name := "underEpoch", desc := "(II)I" } : MethodName)) ∈ wsBig := wb3 (List.mem_of_getElem? (i := 198) rfl) rfl
theorem w679 : (Cond.code ({ cls := "InSyncLogModel", name := "underEpoch", desc := "(II)I" } : MethodName) prog_8_method_8_code (4 : Nat) (Option.some FieldType.int)) ∈ wsBig := wb3 (List.mem_of_getElem? (i := 199) rfl) rfl
theorem w680 : (Cond.methodLink "InSyncLogModel" (161 : Nat) ({ cls := "InSyncLogModel", name := "cut", desc := "(I)V" } : MethodName)) ∈ wsBig := wb3 (List.mem_of_getElem? (i := 200) rfl) rfl
theorem w682 : (Cond.instanceMethod ({ cls := "InSyncLogModel", name := "cut", desc := "(I)V" } : MethodName)) ∈ wsBig := wb3 (List.mem_of_getElem? (i := 202) rfl) rfl
theorem w683 : (Cond.code ({ cls := "InSyncLogModel", name := "cut", desc := "(I)V" } : MethodName) prog_8_method_27_code (3 : Nat) (Option.none : Option FieldType)) ∈ wsBig := wb3 (List.mem_of_getElem? (i := 203) rfl) rfl
theorem w684 : (Cond.methodLink "InSyncLogModel" (164 : Nat) ({ cls := "InSyncLogModel", name := "extend", desc := "(I)V" } : MethodName)) ∈ wsBig := wb3 (List.mem_of_getElem? (i := 204) rfl) rfl
theorem w686 : (Cond.instanceMethod ({ cls := "InSyncLogModel", name := "extend", desc := "(I)V" } : MethodName)) ∈ wsBig := wb3 (List.mem_of_getElem? (i := 206) rfl) rfl
theorem w687 : (Cond.code ({ cls := "InSyncLogModel", name := "extend", desc := "(I)V" } : MethodName) prog_8_method_28_code (4 : Nat) (Option.none : Option FieldType)) ∈ wsBig := wb3 (List.mem_of_getElem? (i := 207) rfl) rfl
theorem w688 : (Cond.methodLink "InSyncLogLaw" (64 : Nat) ({ cls := "InSyncLogModel", name := "review", desc := "(I)I" } : MethodName)) ∈ wsBig := wb3 (List.mem_of_getElem? (i := 208) rfl) rfl
theorem w689 : (Cond.instanceMethod ({ cls := "InSyncLogModel", name := "review", desc := "(I)I" } : MethodName)) ∈ wsBig := wb3 (List.mem_of_getElem? (i := 209) rfl) rfl
theorem w690 : (Cond.selects "InSyncLogModel" ({ cls := "InSyncLogModel", name := "review", desc := "(I)I" } : MethodName) ({ cls := "InSyncLogModel", name := "review", desc := "(I)I" } : MethodName)) ∈ wsBig := wb3 (List.mem_of_getElem? (i := 210) rfl) rfl
theorem w691 : (Cond.code ({ cls := "InSyncLogModel", name := "review", desc := "(I)I" } : MethodName) prog_8_method_30_code (6 : Nat) (Option.some FieldType.int)) ∈ wsBig := wb3 (List.mem_of_getElem? (i := 211) rfl) rfl
theorem w692 : (Cond.methodLink "InSyncLogModel" (170 : Nat) ({ cls := "InSyncLogModel", name := "bits", desc := "(ZI)I" } : MethodName)) ∈ wsBig := wb3 (List.mem_of_getElem? (i := 212) rfl) rfl
theorem w694 : (Cond.instanceMethod ({ cls := "InSyncLogModel", name := "bits", desc := "(ZI)I" } : MethodName)) ∈ wsBig := wb3 (List.mem_of_getElem? (i := 214) rfl) rfl
theorem w695 : (Cond.code ({ cls := "InSyncLogModel", name := "bits", desc := "(ZI)I" } : MethodName) prog_8_method_29_code (6 : Nat) (Option.some FieldType.int)) ∈ wsBig := wb3 (List.mem_of_getElem? (i := 215) rfl) rfl
theorem w696 : (Cond.methodLink "InSyncLogLaw" (68 : Nat) ({ cls := "InSyncLogModel", name := "learn", desc := "(I)Z" } : MethodName)) ∈ wsBig := wb3 (List.mem_of_getElem? (i := 216) rfl) rfl
theorem w697 : (Cond.instanceMethod ({ cls := "InSyncLogModel", name := "learn", desc := "(I)Z" } : MethodName)) ∈ wsBig := wb3 (List.mem_of_getElem? (i := 217) rfl) rfl
theorem w698 : (Cond.selects "InSyncLogModel" ({ cls := "InSyncLogModel", name := "learn", desc := "(I)Z" } : MethodName) ({ cls := "InSyncLogModel", name := "learn", desc := "(I)Z" } : MethodName)) ∈ wsBig := wb3 (List.mem_of_getElem? (i := 218) rfl) rfl
theorem w699 : (Cond.code ({ cls := "InSyncLogModel", name := "learn", desc := "(I)Z" } : MethodName) prog_8_method_31_code (2 : Nat) (Option.some FieldType.boolean)) ∈ wsBig := wb3 (List.mem_of_getElem? (i := 219) rfl) rfl
theorem w700 : (Cond.methodLink "InSyncLogLaw" (72 : Nat) ({ cls := "InSyncLogModel", name := "crash", desc := "(I)Z" } : MethodName)) ∈ wsBig := wb3 (List.mem_of_getElem? (i := 220) rfl) rfl
theorem w701 : (Cond.instanceMethod ({ cls := "InSyncLogModel", name := "crash", desc := "(I)Z" } : MethodName)) ∈ wsBig := wb3 (List.mem_of_getElem? (i := 221) rfl) rfl
theorem w702 : (Cond.selects "InSyncLogModel" ({ cls := "InSyncLogModel", name := "crash", desc := "(I)Z" } : MethodName) ({ cls := "InSyncLogModel", name := "crash", desc := "(I)Z" } : MethodName)) ∈ wsBig := wb3 (List.mem_of_getElem? (i := 222) rfl) rfl
theorem w703 : (Cond.code ({ cls := "InSyncLogModel", name := "crash", desc := "(I)Z" } : MethodName) prog_8_method_32_code (2 : Nat) (Option.some FieldType.boolean)) ∈ wsBig := wb3 (List.mem_of_getElem? (i := 223) rfl) rfl
theorem w704 : (Cond.methodLink "InSyncLogLaw" (76 : Nat) ({ cls := "InSyncLogModel", name := "restart", desc := "(I)Z" } : MethodName)) ∈ wsBig := wb3 (List.mem_of_getElem? (i := 224) rfl) rfl
theorem w705 : (Cond.instanceMethod ({ cls := "InSyncLogModel", name := "restart", desc := "(I)Z" } : MethodName)) ∈ wsBig := wb3 (List.mem_of_getElem? (i := 225) rfl) rfl
theorem w706 : (Cond.selects "InSyncLogModel" ({ cls := "InSyncLogModel", name := "restart", desc := "(I)Z" } : MethodName) ({ cls := "InSyncLogModel", name := "restart", desc := "(I)Z" } : MethodName)) ∈ wsBig := wb3 (List.mem_of_getElem? (i := 226) rfl) rfl
theorem w707 : (Cond.code ({ cls := "InSyncLogModel", name := "restart", desc := "(I)Z" } : MethodName) prog_8_method_33_code (3 : Nat) (Option.some FieldType.boolean)) ∈ wsBig := wb3 (List.mem_of_getElem? (i := 227) rfl) rfl
theorem w708 : (Cond.methodLink "InSyncLogLaw" (80 : Nat) ({ cls := "InSyncLogModel", name := "govern", desc := "(I)Z" } : MethodName)) ∈ wsBig := wb3 (List.mem_of_getElem? (i := 228) rfl) rfl
theorem w709 : (Cond.instanceMethod ({ cls := "InSyncLogModel", name := "govern", desc := "(I)Z" } : MethodName)) ∈ wsBig := wb3 (List.mem_of_getElem? (i := 229) rfl) rfl
theorem w710 : (Cond.selects "InSyncLogModel" ({ cls := "InSyncLogModel", name := "govern", desc := "(I)Z" } : MethodName) ({ cls := "InSyncLogModel", name := "govern", desc := "(I)Z" } : MethodName)) ∈ wsBig := wb3 (List.mem_of_getElem? (i := 230) rfl) rfl
theorem w711 : (Cond.code ({ cls := "InSyncLogModel", name := "govern", desc := "(I)Z" } : MethodName) prog_8_method_35_code (7 : Nat) (Option.some FieldType.boolean)) ∈ wsBig := wb3 (List.mem_of_getElem? (i := 231) rfl) rfl
theorem w712 : (Cond.methodLink "InSyncLogModel" (177 : Nat) ({ cls := "InSyncLogModel", name := "alive", desc := "(II)Z" } : MethodName)) ∈ wsBig := wb3 (List.mem_of_getElem? (i := 232) rfl) rfl
theorem w714 : (Cond.instanceMethod ({ cls := "InSyncLogModel", name := "alive", desc := "(II)Z" } : MethodName)) ∈ wsBig := wb3 (List.mem_of_getElem? (i := 234) rfl) rfl
theorem w715 : (Cond.code ({ cls := "InSyncLogModel", name := "alive", desc := "(II)Z" } : MethodName) prog_8_method_34_code (3 : Nat) (Option.some FieldType.boolean)) ∈ wsBig := wb3 (List.mem_of_getElem? (i := 235) rfl) rfl
theorem w716 : (Cond.methodLink "InSyncLogLaw" (84 : Nat) ({ cls := "InSyncLogModel", name := "tick", desc := "(I)Z" } : MethodName)) ∈ wsBig := wb3 (List.mem_of_getElem? (i := 236) rfl) rfl
theorem w717 : (Cond.instanceMethod ({ cls := "InSyncLogModel", name := "tick", desc := "(I)Z" } : MethodName)) ∈ wsBig := wb3 (List.mem_of_getElem? (i := 237) rfl) rfl
theorem w718 : (Cond.selects "InSyncLogModel" ({ cls := "InSyncLogModel", name := "tick", desc := "(I)Z" } : MethodName) ({ cls := "InSyncLogModel", name := "tick", desc := "(I)Z" } : MethodName)) ∈ wsBig := wb3 (List.mem_of_getElem? (i := 238) rfl) rfl
theorem w719 : (Cond.code ({ cls := "InSyncLogModel", name := "tick", desc := "(I)Z" } : MethodName) prog_8_method_36_code (2 : Nat) (Option.some FieldType.boolean)) ∈ wsBig := wb3 (List.mem_of_getElem? (i := 239) rfl) rfl
theorem w720 : (Cond.methodLink "InSyncLogLaw" (88 : Nat) ({ cls := "InSyncLogModel", name := "controller", desc := "(I)I" } : MethodName)) ∈ wsBig := wb4 (List.mem_of_getElem? (i := 0) rfl) rfl
theorem w721 : (Cond.instanceMethod ({ cls := "InSyncLogModel", name := "controller", desc := "(I)I" } : MethodName)) ∈ wsBig := wb4 (List.mem_of_getElem? (i := 1) rfl) rfl
theorem w722 : (Cond.selects "InSyncLogModel" ({ cls := "InSyncLogModel", name := "controller", desc := "(I)I" } : MethodName) ({ cls := "InSyncLogModel", name := "controller", desc := "(I)I" } : MethodName)) ∈ wsBig := wb4 (List.mem_of_getElem? (i := 2) rfl) rfl
theorem w723 : (Cond.code ({ cls := "InSyncLogModel", name := "controller", desc := "(I)I" } : MethodName) prog_8_method_37_code (2 : Nat) (Option.some FieldType.int)) ∈ wsBig := wb4 (List.mem_of_getElem? (i := 3) rfl) rfl
theorem w724 : (Cond.methodLink "InSyncLogLaw" (92 : Nat) ({ cls := "InSyncLogModel", name := "broker", desc := "(II)I" } : MethodName)) ∈ wsBig := wb4 (List.mem_of_getElem? (i := 4) rfl) rfl
theorem w725 : (Cond.instanceMethod ({ cls := "InSyncLogModel", name := "broker", desc := "(II)I" } : MethodName)) ∈ wsBig := wb4 (List.mem_of_getElem? (i := 5) rfl) rfl
theorem w726 : (Cond.selects "InSyncLogModel" ({ cls := "InSyncLogModel", name := "broker", desc := "(II)I" } : MethodName) ({ cls := "InSyncLogModel", name := "broker", desc := "(II)I" } : MethodName)) ∈ wsBig := wb4 (List.mem_of_getElem? (i := 6) rfl) rfl
theorem w727 : (Cond.code ({ cls := "InSyncLogModel", name := "broker", desc := "(II)I" } : MethodName) prog_8_method_38_code (3 : Nat) (Option.some FieldType.int)) ∈ wsBig := wb4 (List.mem_of_getElem? (i := 7) rfl) rfl
theorem s_I_isLeading : Cond.selects "InSyncLog" ⟨"InSyncLog", "isLeading", "(I)Z"⟩ ⟨"InSyncLog", "isLeading", "(I)Z"⟩ ∈ wsBig := wq1 (List.mem_of_getElem? (i := 0) rfl)
theorem s_B_leads : Cond.selects "InSyncLog$Broker" ⟨"InSyncLog$Broker", "leads", "()Z"⟩ ⟨"InSyncLog$Broker", "leads", "()Z"⟩ ∈ wsBig := wq1 (List.mem_of_getElem? (i := 1) rfl)
theorem s_I_append : Cond.selects "InSyncLog" ⟨"InSyncLog", "append", "(LInSyncLog$Broker;II)I"⟩ ⟨"InSyncLog", "append", "(LInSyncLog$Broker;II)I"⟩ ∈ wsBig := wq1 (List.mem_of_getElem? (i := 2) rfl)
theorem s_L_isFull : Cond.selects "InSyncLog$Log" ⟨"InSyncLog$Log", "isFull", "()Z"⟩ ⟨"InSyncLog$Log", "isFull", "()Z"⟩ ∈ wsBig := wq1 (List.mem_of_getElem? (i := 3) rfl)
theorem s_L_add : Cond.selects "InSyncLog$Log" ⟨"InSyncLog$Log", "add", "(II)V"⟩ ⟨"InSyncLog$Log", "add", "(II)V"⟩ ∈ wsBig := wq1 (List.mem_of_getElem? (i := 4) rfl)
theorem s_B_raiseHw : Cond.selects "InSyncLog$Broker" ⟨"InSyncLog$Broker", "raiseHw", "()V"⟩ ⟨"InSyncLog$Broker", "raiseHw", "()V"⟩ ∈ wsBig := wq1 (List.mem_of_getElem? (i := 5) rfl)
theorem s_L_has : Cond.selects "InSyncLog$Log" ⟨"InSyncLog$Log", "has", "(I)Z"⟩ ⟨"InSyncLog$Log", "has", "(I)Z"⟩ ∈ wsBig := wq1 (List.mem_of_getElem? (i := 6) rfl)
theorem s_L_isMark : Cond.selects "InSyncLog$Log" ⟨"InSyncLog$Log", "isMark", "(I)Z"⟩ ⟨"InSyncLog$Log", "isMark", "(I)Z"⟩ ∈ wsBig := wq1 (List.mem_of_getElem? (i := 7) rfl)
theorem s_L_stampOf : Cond.selects "InSyncLog$Log" ⟨"InSyncLog$Log", "stampOf", "(I)I"⟩ ⟨"InSyncLog$Log", "stampOf", "(I)I"⟩ ∈ wsBig := wq1 (List.mem_of_getElem? (i := 8) rfl)
theorem s_L_valueOf : Cond.selects "InSyncLog$Log" ⟨"InSyncLog$Log", "valueOf", "(I)I"⟩ ⟨"InSyncLog$Log", "valueOf", "(I)I"⟩ ∈ wsBig := wq1 (List.mem_of_getElem? (i := 9) rfl)
theorem s_I_isUp : Cond.selects "InSyncLog" ⟨"InSyncLog", "isUp", "(I)Z"⟩ ⟨"InSyncLog", "isUp", "(I)Z"⟩ ∈ wsBig := wq1 (List.mem_of_getElem? (i := 10) rfl)
theorem s_L_lastEpoch : Cond.selects "InSyncLog$Log" ⟨"InSyncLog$Log", "lastEpoch", "()I"⟩ ⟨"InSyncLog$Log", "lastEpoch", "()I"⟩ ∈ wsBig := wq1 (List.mem_of_getElem? (i := 11) rfl)
theorem s_L_epochOf : Cond.selects "InSyncLog$Log" ⟨"InSyncLog$Log", "epochOf", "(I)I"⟩ ⟨"InSyncLog$Log", "epochOf", "(I)I"⟩ ∈ wsBig := wq1 (List.mem_of_getElem? (i := 12) rfl)
theorem s_H_send : Cond.selects "InSyncLog$Channel" ⟨"InSyncLog$Channel", "send", "(ILInSyncLog$Broker;IIII)LInSyncLog$Message;"⟩ ⟨"InSyncLog$Channel", "send", "(ILInSyncLog$Broker;IIII)LInSyncLog$Message;"⟩ ∈ wsBig := wq1 (List.mem_of_getElem? (i := 13) rfl)
theorem s_H_take : Cond.selects "InSyncLog$Channel" ⟨"InSyncLog$Channel", "take", "(I)LInSyncLog$Message;"⟩ ⟨"InSyncLog$Channel", "take", "(I)LInSyncLog$Message;"⟩ ∈ wsBig := wq1 (List.mem_of_getElem? (i := 14) rfl)
theorem s_H_has : Cond.selects "InSyncLog$Channel" ⟨"InSyncLog$Channel", "has", "(I)Z"⟩ ⟨"InSyncLog$Channel", "has", "(I)Z"⟩ ∈ wsBig := wq1 (List.mem_of_getElem? (i := 15) rfl)
theorem s_I_answer : Cond.selects "InSyncLog" ⟨"InSyncLog", "answer", "(LInSyncLog$Broker;LInSyncLog$Message;)V"⟩ ⟨"InSyncLog", "answer", "(LInSyncLog$Broker;LInSyncLog$Message;)V"⟩ ∈ wsBig := wq2 (List.mem_of_getElem? (i := 0) rfl)
theorem s_L_continues : Cond.selects "InSyncLog$Log" ⟨"InSyncLog$Log", "continues", "(II)Z"⟩ ⟨"InSyncLog$Log", "continues", "(II)Z"⟩ ∈ wsBig := wq2 (List.mem_of_getElem? (i := 1) rfl)
theorem s_B_noteFetched : Cond.selects "InSyncLog$Broker" ⟨"InSyncLog$Broker", "noteFetched", "(III)V"⟩ ⟨"InSyncLog$Broker", "noteFetched", "(III)V"⟩ ∈ wsBig := wq2 (List.mem_of_getElem? (i := 2) rfl)
theorem s_I_sendBatch : Cond.selects "InSyncLog" ⟨"InSyncLog", "sendBatch", "(LInSyncLog$Broker;LInSyncLog$Message;)V"⟩ ⟨"InSyncLog", "sendBatch", "(LInSyncLog$Broker;LInSyncLog$Message;)V"⟩ ∈ wsBig := wq2 (List.mem_of_getElem? (i := 3) rfl)
theorem s_G_copyRecords : Cond.selects "InSyncLog$Message" ⟨"InSyncLog$Message", "copyRecords", "(LInSyncLog$Log;I)V"⟩ ⟨"InSyncLog$Message", "copyRecords", "(LInSyncLog$Log;I)V"⟩ ∈ wsBig := wq2 (List.mem_of_getElem? (i := 4) rfl)
theorem s_I_sendCut : Cond.selects "InSyncLog" ⟨"InSyncLog", "sendCut", "(LInSyncLog$Broker;LInSyncLog$Message;)V"⟩ ⟨"InSyncLog", "sendCut", "(LInSyncLog$Broker;LInSyncLog$Message;)V"⟩ ∈ wsBig := wq2 (List.mem_of_getElem? (i := 5) rfl)
theorem s_L_countUpTo : Cond.selects "InSyncLog$Log" ⟨"InSyncLog$Log", "countUpTo", "(I)I"⟩ ⟨"InSyncLog$Log", "countUpTo", "(I)I"⟩ ∈ wsBig := wq2 (List.mem_of_getElem? (i := 6) rfl)
theorem s_B_accept : Cond.selects "InSyncLog$Broker" ⟨"InSyncLog$Broker", "accept", "(LInSyncLog$Message;)V"⟩ ⟨"InSyncLog$Broker", "accept", "(LInSyncLog$Message;)V"⟩ ∈ wsBig := wq2 (List.mem_of_getElem? (i := 7) rfl)
theorem s_B_isExpecting : Cond.selects "InSyncLog$Broker" ⟨"InSyncLog$Broker", "isExpecting", "(LInSyncLog$Message;)Z"⟩ ⟨"InSyncLog$Broker", "isExpecting", "(LInSyncLog$Message;)Z"⟩ ∈ wsBig := wq2 (List.mem_of_getElem? (i := 8) rfl)
theorem s_L_cutTo : Cond.selects "InSyncLog$Log" ⟨"InSyncLog$Log", "cutTo", "(I)V"⟩ ⟨"InSyncLog$Log", "cutTo", "(I)V"⟩ ∈ wsBig := wq2 (List.mem_of_getElem? (i := 9) rfl)
theorem s_G_appendRecords : Cond.selects "InSyncLog$Message" ⟨"InSyncLog$Message", "appendRecords", "(LInSyncLog$Log;)V"⟩ ⟨"InSyncLog$Message", "appendRecords", "(LInSyncLog$Log;)V"⟩ ∈ wsBig := wq2 (List.mem_of_getElem? (i := 10) rfl)
theorem s_G_word : Cond.selects "InSyncLog$Message" ⟨"InSyncLog$Message", "word", "(I)I"⟩ ⟨"InSyncLog$Message", "word", "(I)I"⟩ ∈ wsBig := wq2 (List.mem_of_getElem? (i := 11) rfl)
theorem s_B_replicasInSync : Cond.selects "InSyncLog$Broker" ⟨"InSyncLog$Broker", "replicasInSync", "(II)I"⟩ ⟨"InSyncLog$Broker", "replicasInSync", "(II)I"⟩ ∈ wsBig := wq2 (List.mem_of_getElem? (i := 12) rfl)
theorem s_B_hasFetchedEnough : Cond.selects "InSyncLog$Broker" ⟨"InSyncLog$Broker", "hasFetchedEnough", "(I)Z"⟩ ⟨"InSyncLog$Broker", "hasFetchedEnough", "(I)Z"⟩ ∈ wsBig := wq2 (List.mem_of_getElem? (i := 13) rfl)
theorem s_B_adopt : Cond.selects "InSyncLog$Broker" ⟨"InSyncLog$Broker", "adopt", "(LInSyncLog$Controller;I)V"⟩ ⟨"InSyncLog$Broker", "adopt", "(LInSyncLog$Controller;I)V"⟩ ∈ wsBig := wq2 (List.mem_of_getElem? (i := 14) rfl)
theorem s_B_goDown : Cond.selects "InSyncLog$Broker" ⟨"InSyncLog$Broker", "goDown", "()V"⟩ ⟨"InSyncLog$Broker", "goDown", "()V"⟩ ∈ wsBig := wq2 (List.mem_of_getElem? (i := 15) rfl)
theorem s_T_reactTo : Cond.selects "InSyncLog$Controller" ⟨"InSyncLog$Controller", "reactTo", "(I)Z"⟩ ⟨"InSyncLog$Controller", "reactTo", "(I)Z"⟩ ∈ wsBig := wq3 (List.mem_of_getElem? (i := 0) rfl)
theorem s_T_begin : Cond.selects "InSyncLog$Controller" ⟨"InSyncLog$Controller", "begin", "(II)Z"⟩ ⟨"InSyncLog$Controller", "begin", "(II)Z"⟩ ∈ wsBig := wq3 (List.mem_of_getElem? (i := 1) rfl)
theorem s_B_fact : Cond.selects "InSyncLog$Broker" ⟨"InSyncLog$Broker", "fact", "(I)I"⟩ ⟨"InSyncLog$Broker", "fact", "(I)I"⟩ ∈ wsBig := wq3 (List.mem_of_getElem? (i := 2) rfl)
theorem s_M_takeOver : Cond.selects "InSyncLogModel" ⟨"InSyncLogModel", "takeOver", "(I)V"⟩ ⟨"InSyncLogModel", "takeOver", "(I)V"⟩ ∈ wsBig := wq3 (List.mem_of_getElem? (i := 3) rfl)
theorem s_M_leads : Cond.selects "InSyncLogModel" ⟨"InSyncLogModel", "leads", "(I)Z"⟩ ⟨"InSyncLogModel", "leads", "(I)Z"⟩ ∈ wsBig := wq3 (List.mem_of_getElem? (i := 4) rfl)
theorem s_M_append : Cond.selects "InSyncLogModel" ⟨"InSyncLogModel", "append", "(IIZ)I"⟩ ⟨"InSyncLogModel", "append", "(IIZ)I"⟩ ∈ wsBig := wq3 (List.mem_of_getElem? (i := 5) rfl)
theorem s_M_syncSize : Cond.selects "InSyncLogModel" ⟨"InSyncLogModel", "syncSize", "(I)I"⟩ ⟨"InSyncLogModel", "syncSize", "(I)I"⟩ ∈ wsBig := wq3 (List.mem_of_getElem? (i := 6) rfl)
theorem s_M_rise : Cond.selects "InSyncLogModel" ⟨"InSyncLogModel", "rise", "(I)V"⟩ ⟨"InSyncLogModel", "rise", "(I)V"⟩ ∈ wsBig := wq3 (List.mem_of_getElem? (i := 7) rfl)
theorem s_M_recordAt : Cond.selects "InSyncLogModel" ⟨"InSyncLogModel", "recordAt", "(II)I"⟩ ⟨"InSyncLogModel", "recordAt", "(II)I"⟩ ∈ wsBig := wq3 (List.mem_of_getElem? (i := 8) rfl)
theorem s_M_upTo : Cond.selects "InSyncLogModel" ⟨"InSyncLogModel", "upTo", "(II)I"⟩ ⟨"InSyncLogModel", "upTo", "(II)I"⟩ ∈ wsBig := wq3 (List.mem_of_getElem? (i := 9) rfl)
theorem s_M_send : Cond.selects "InSyncLogModel" ⟨"InSyncLogModel", "send", "(IIIIIII)Z"⟩ ⟨"InSyncLogModel", "send", "(IIIIIII)Z"⟩ ∈ wsBig := wq3 (List.mem_of_getElem? (i := 10) rfl)
theorem s_M_isMessage : Cond.selects "InSyncLogModel" ⟨"InSyncLogModel", "isMessage", "(I)Z"⟩ ⟨"InSyncLogModel", "isMessage", "(I)Z"⟩ ∈ wsBig := wq3 (List.mem_of_getElem? (i := 11) rfl)
theorem s_M_remove : Cond.selects "InSyncLogModel" ⟨"InSyncLogModel", "remove", "(I)V"⟩ ⟨"InSyncLogModel", "remove", "(I)V"⟩ ∈ wsBig := wq3 (List.mem_of_getElem? (i := 12) rfl)
theorem s_M_move : Cond.selects "InSyncLogModel" ⟨"InSyncLogModel", "move", "(II)V"⟩ ⟨"InSyncLogModel", "move", "(II)V"⟩ ∈ wsBig := wq3 (List.mem_of_getElem? (i := 13) rfl)
theorem s_M_answer : Cond.selects "InSyncLogModel" ⟨"InSyncLogModel", "answer", "(IIII)V"⟩ ⟨"InSyncLogModel", "answer", "(IIII)V"⟩ ∈ wsBig := wq3 (List.mem_of_getElem? (i := 14) rfl)
theorem s_M_underEpoch : Cond.selects "InSyncLogModel" ⟨"InSyncLogModel", "underEpoch", "(II)I"⟩ ⟨"InSyncLogModel", "underEpoch", "(II)I"⟩ ∈ wsBig := wq3 (List.mem_of_getElem? (i := 15) rfl)
theorem s_M_cut : Cond.selects "InSyncLogModel" ⟨"InSyncLogModel", "cut", "(I)V"⟩ ⟨"InSyncLogModel", "cut", "(I)V"⟩ ∈ wsBig := wq4 (List.mem_of_getElem? (i := 0) rfl)
theorem s_M_extend : Cond.selects "InSyncLogModel" ⟨"InSyncLogModel", "extend", "(I)V"⟩ ⟨"InSyncLogModel", "extend", "(I)V"⟩ ∈ wsBig := wq4 (List.mem_of_getElem? (i := 1) rfl)
theorem s_M_bits : Cond.selects "InSyncLogModel" ⟨"InSyncLogModel", "bits", "(ZI)I"⟩ ⟨"InSyncLogModel", "bits", "(ZI)I"⟩ ∈ wsBig := wq4 (List.mem_of_getElem? (i := 2) rfl)
theorem s_M_alive : Cond.selects "InSyncLogModel" ⟨"InSyncLogModel", "alive", "(II)Z"⟩ ⟨"InSyncLogModel", "alive", "(II)Z"⟩ ∈ wsBig := wq4 (List.mem_of_getElem? (i := 3) rfl)
def T_B : u_T := fun k => match k with
  | 0 => ("InSyncLog$Broker", "id", "I", true)
  | 1 => ("InSyncLog$Broker", "log", "LInSyncLog$Log;", true)
  | 2 => ("InSyncLog$Broker", "fetched", "[I", true)
  | 3 => ("InSyncLog$Broker", "caughtUp", "[I", true)
  | 4 => ("InSyncLog$Broker", "up", "Z", false)
  | 5 => ("InSyncLog$Broker", "epoch", "I", false)
  | 6 => ("InSyncLog$Broker", "leader", "I", false)
  | 7 => ("InSyncLog$Broker", "hw", "I", false)
  | 8 => ("InSyncLog$Broker", "fetches", "I", false)
  | 9 => ("InSyncLog$Broker", "awaits", "Z", false)
  | 10 => ("InSyncLog$Broker", "start", "I", false)
  | _ => ("InSyncLog$Broker", "sync", "I", false)
def ty_B : Nat → FieldType := fun k => match k with
  | 0 => .int
  | 1 => .object "InSyncLog$Log"
  | 2 => .array .int
  | 3 => .array .int
  | 4 => .boolean
  | 5 => .int
  | 6 => .int
  | 7 => .int
  | 8 => .int
  | 9 => .boolean
  | 10 => .int
  | _ => .int
theorem nm_B : ∀ a, a < 12 → ∀ b, b < 12 → a ≠ b → (T_B a).2.1 ≠ (T_B b).2.1 := by decide +kernel
theorem ty_B_ok : ∀ k, k < 12 → parseFieldDescriptor (T_B k).2.2.1 = some (ty_B k) := by decide +kernel
theorem in_B : ∀ w ∈ u_ws "InSyncLog$Broker" T_B 12, w ∈ wsBig := by
  show ∀ w ∈ [u_lay "InSyncLog$Broker" T_B 0, u_lay "InSyncLog$Broker" T_B 1, u_lay "InSyncLog$Broker" T_B 2, u_lay "InSyncLog$Broker" T_B 3, u_lay "InSyncLog$Broker" T_B 4, u_lay "InSyncLog$Broker" T_B 5, u_lay "InSyncLog$Broker" T_B 6, u_lay "InSyncLog$Broker" T_B 7, u_lay "InSyncLog$Broker" T_B 8, u_lay "InSyncLog$Broker" T_B 9, u_lay "InSyncLog$Broker" T_B 10, u_lay "InSyncLog$Broker" T_B 11], w ∈ wsBig
  exact List.forall_mem_cons.mpr ⟨w170, List.forall_mem_cons.mpr ⟨w172, List.forall_mem_cons.mpr ⟨w174, List.forall_mem_cons.mpr ⟨w176, List.forall_mem_cons.mpr ⟨w178, List.forall_mem_cons.mpr ⟨w180, List.forall_mem_cons.mpr ⟨w182, List.forall_mem_cons.mpr ⟨w184, List.forall_mem_cons.mpr ⟨w186, List.forall_mem_cons.mpr ⟨w188, List.forall_mem_cons.mpr ⟨w190, List.forall_mem_cons.mpr ⟨w192, fun _ h => absurd h List.not_mem_nil⟩⟩⟩⟩⟩⟩⟩⟩⟩⟩⟩⟩
def T_H : u_T := fun k => match k with
  | 0 => ("InSyncLog$Channel", "slots", "[LInSyncLog$Message;", true)
  | _ => ("InSyncLog$Channel", "count", "I", false)
def ty_H : Nat → FieldType := fun k => match k with
  | 0 => .array (.object "InSyncLog$Message")
  | _ => .int
theorem nm_H : ∀ a, a < 2 → ∀ b, b < 2 → a ≠ b → (T_H a).2.1 ≠ (T_H b).2.1 := by decide +kernel
theorem ty_H_ok : ∀ k, k < 2 → parseFieldDescriptor (T_H k).2.2.1 = some (ty_H k) := by decide +kernel
theorem in_H : ∀ w ∈ u_ws "InSyncLog$Channel" T_H 2, w ∈ wsBig := by
  show ∀ w ∈ [u_lay "InSyncLog$Channel" T_H 0, u_lay "InSyncLog$Channel" T_H 1], w ∈ wsBig
  exact List.forall_mem_cons.mpr ⟨w115, List.forall_mem_cons.mpr ⟨w117, fun _ h => absurd h List.not_mem_nil⟩⟩
def T_T : u_T := fun k => match k with
  | 0 => ("InSyncLog$Controller", "epoch", "I", false)
  | 1 => ("InSyncLog$Controller", "leader", "I", false)
  | _ => ("InSyncLog$Controller", "isr", "I", false)
def ty_T : Nat → FieldType := fun k => match k with
  | 0 => .int
  | 1 => .int
  | _ => .int
theorem nm_T : ∀ a, a < 3 → ∀ b, b < 3 → a ≠ b → (T_T a).2.1 ≠ (T_T b).2.1 := by decide +kernel
theorem ty_T_ok : ∀ k, k < 3 → parseFieldDescriptor (T_T k).2.2.1 = some (ty_T k) := by decide +kernel
theorem in_T : ∀ w ∈ u_ws "InSyncLog$Controller" T_T 3, w ∈ wsBig := by
  show ∀ w ∈ [u_lay "InSyncLog$Controller" T_T 0, u_lay "InSyncLog$Controller" T_T 1, u_lay "InSyncLog$Controller" T_T 2], w ∈ wsBig
  exact List.forall_mem_cons.mpr ⟨w43, List.forall_mem_cons.mpr ⟨w45, List.forall_mem_cons.mpr ⟨w47, fun _ h => absurd h List.not_mem_nil⟩⟩⟩
def T_L : u_T := fun k => match k with
  | 0 => ("InSyncLog$Log", "stamps", "[I", true)
  | 1 => ("InSyncLog$Log", "values", "[I", true)
  | _ => ("InSyncLog$Log", "end", "I", false)
def ty_L : Nat → FieldType := fun k => match k with
  | 0 => .array .int
  | 1 => .array .int
  | _ => .int
theorem nm_L : ∀ a, a < 3 → ∀ b, b < 3 → a ≠ b → (T_L a).2.1 ≠ (T_L b).2.1 := by decide +kernel
theorem ty_L_ok : ∀ k, k < 3 → parseFieldDescriptor (T_L k).2.2.1 = some (ty_L k) := by decide +kernel
theorem in_L : ∀ w ∈ u_ws "InSyncLog$Log" T_L 3, w ∈ wsBig := by
  show ∀ w ∈ [u_lay "InSyncLog$Log" T_L 0, u_lay "InSyncLog$Log" T_L 1, u_lay "InSyncLog$Log" T_L 2], w ∈ wsBig
  exact List.forall_mem_cons.mpr ⟨w138, List.forall_mem_cons.mpr ⟨w140, List.forall_mem_cons.mpr ⟨w142, fun _ h => absurd h List.not_mem_nil⟩⟩⟩
def T_G : u_T := fun k => match k with
  | 0 => ("InSyncLog$Message", "stamps", "[I", true)
  | 1 => ("InSyncLog$Message", "values", "[I", true)
  | 2 => ("InSyncLog$Message", "kind", "I", false)
  | 3 => ("InSyncLog$Message", "from", "I", false)
  | 4 => ("InSyncLog$Message", "to", "I", false)
  | 5 => ("InSyncLog$Message", "epoch", "I", false)
  | 6 => ("InSyncLog$Message", "number", "I", false)
  | 7 => ("InSyncLog$Message", "size", "I", false)
  | _ => ("InSyncLog$Message", "tail", "I", false)
def ty_G : Nat → FieldType := fun k => match k with
  | 0 => .array .int
  | 1 => .array .int
  | 2 => .int
  | 3 => .int
  | 4 => .int
  | 5 => .int
  | 6 => .int
  | 7 => .int
  | _ => .int
theorem nm_G : ∀ a, a < 9 → ∀ b, b < 9 → a ≠ b → (T_G a).2.1 ≠ (T_G b).2.1 := by decide +kernel
theorem ty_G_ok : ∀ k, k < 9 → parseFieldDescriptor (T_G k).2.2.1 = some (ty_G k) := by decide +kernel
theorem in_G : ∀ w ∈ u_ws "InSyncLog$Message" T_G 9, w ∈ wsBig := by
  show ∀ w ∈ [u_lay "InSyncLog$Message" T_G 0, u_lay "InSyncLog$Message" T_G 1, u_lay "InSyncLog$Message" T_G 2, u_lay "InSyncLog$Message" T_G 3, u_lay "InSyncLog$Message" T_G 4, u_lay "InSyncLog$Message" T_G 5, u_lay "InSyncLog$Message" T_G 6, u_lay "InSyncLog$Message" T_G 7, u_lay "InSyncLog$Message" T_G 8], w ∈ wsBig
  exact List.forall_mem_cons.mpr ⟨w91, List.forall_mem_cons.mpr ⟨w93, List.forall_mem_cons.mpr ⟨w95, List.forall_mem_cons.mpr ⟨w97, List.forall_mem_cons.mpr ⟨w99, List.forall_mem_cons.mpr ⟨w101, List.forall_mem_cons.mpr ⟨w103, List.forall_mem_cons.mpr ⟨w105, List.forall_mem_cons.mpr ⟨w107, fun _ h => absurd h List.not_mem_nil⟩⟩⟩⟩⟩⟩⟩⟩⟩
def T_I : u_T := fun k => match k with
  | 0 => ("InSyncLog", "lag", "I", true)
  | 1 => ("InSyncLog", "batch", "I", true)
  | 2 => ("InSyncLog", "least", "I", true)
  | 3 => ("InSyncLog", "brokers", "[LInSyncLog$Broker;", true)
  | 4 => ("InSyncLog", "control", "LInSyncLog$Controller;", true)
  | 5 => ("InSyncLog", "channel", "LInSyncLog$Channel;", true)
  | _ => ("InSyncLog", "time", "I", false)
def ty_I : Nat → FieldType := fun k => match k with
  | 0 => .int
  | 1 => .int
  | 2 => .int
  | 3 => .array (.object "InSyncLog$Broker")
  | 4 => .object "InSyncLog$Controller"
  | 5 => .object "InSyncLog$Channel"
  | _ => .int
theorem nm_I : ∀ a, a < 7 → ∀ b, b < 7 → a ≠ b → (T_I a).2.1 ≠ (T_I b).2.1 := by decide +kernel
theorem ty_I_ok : ∀ k, k < 7 → parseFieldDescriptor (T_I k).2.2.1 = some (ty_I k) := by decide +kernel
theorem in_I : ∀ w ∈ u_ws "InSyncLog" T_I 7, w ∈ wsBig := by
  show ∀ w ∈ [u_lay "InSyncLog" T_I 0, u_lay "InSyncLog" T_I 1, u_lay "InSyncLog" T_I 2, u_lay "InSyncLog" T_I 3, u_lay "InSyncLog" T_I 4, u_lay "InSyncLog" T_I 5, u_lay "InSyncLog" T_I 6], w ∈ wsBig
  exact List.forall_mem_cons.mpr ⟨w202, List.forall_mem_cons.mpr ⟨w204, List.forall_mem_cons.mpr ⟨w206, List.forall_mem_cons.mpr ⟨w208, List.forall_mem_cons.mpr ⟨w210, List.forall_mem_cons.mpr ⟨w212, List.forall_mem_cons.mpr ⟨w214, fun _ h => absurd h List.not_mem_nil⟩⟩⟩⟩⟩⟩⟩
def T_M : u_T := fun k => match k with
  | 0 => ("InSyncLogModel", "lag", "I", true)
  | 1 => ("InSyncLogModel", "batch", "I", true)
  | 2 => ("InSyncLogModel", "least", "I", true)
  | 3 => ("InSyncLogModel", "time", "I", false)
  | 4 => ("InSyncLogModel", "epoch", "I", false)
  | 5 => ("InSyncLogModel", "leader", "I", false)
  | 6 => ("InSyncLogModel", "inSync", "[Z", true)
  | 7 => ("InSyncLogModel", "records", "I", false)
  | 8 => ("InSyncLogModel", "before", "[I", true)
  | 9 => ("InSyncLogModel", "depth", "[I", true)
  | 10 => ("InSyncLogModel", "recordEpoch", "[I", true)
  | 11 => ("InSyncLogModel", "recordValue", "[I", true)
  | 12 => ("InSyncLogModel", "recordMark", "[Z", true)
  | 13 => ("InSyncLogModel", "last", "[I", true)
  | 14 => ("InSyncLogModel", "high", "[I", true)
  | 15 => ("InSyncLogModel", "up", "[Z", true)
  | 16 => ("InSyncLogModel", "knownEpoch", "[I", true)
  | 17 => ("InSyncLogModel", "knownLeader", "[I", true)
  | 18 => ("InSyncLogModel", "latest", "[I", true)
  | 19 => ("InSyncLogModel", "awaited", "[Z", true)
  | 20 => ("InSyncLogModel", "sync", "[Z", true)
  | 21 => ("InSyncLogModel", "fetched", "[I", true)
  | 22 => ("InSyncLogModel", "caught", "[I", true)
  | 23 => ("InSyncLogModel", "start", "[I", true)
  | 24 => ("InSyncLogModel", "count", "I", false)
  | 25 => ("InSyncLogModel", "kind", "[I", true)
  | 26 => ("InSyncLogModel", "from", "[I", true)
  | 27 => ("InSyncLogModel", "to", "[I", true)
  | 28 => ("InSyncLogModel", "bears", "[I", true)
  | 29 => ("InSyncLogModel", "number", "[I", true)
  | 30 => ("InSyncLogModel", "five", "[I", true)
  | 31 => ("InSyncLogModel", "six", "[I", true)
  | 32 => ("InSyncLogModel", "load", "[I", true)
  | _ => ("InSyncLogModel", "now", "[I", true)
def ty_M : Nat → FieldType := fun k => match k with
  | 0 => .int
  | 1 => .int
  | 2 => .int
  | 3 => .int
  | 4 => .int
  | 5 => .int
  | 6 => .array .boolean
  | 7 => .int
  | 8 => .array .int
  | 9 => .array .int
  | 10 => .array .int
  | 11 => .array .int
  | 12 => .array .boolean
  | 13 => .array .int
  | 14 => .array .int
  | 15 => .array .boolean
  | 16 => .array .int
  | 17 => .array .int
  | 18 => .array .int
  | 19 => .array .boolean
  | 20 => .array .boolean
  | 21 => .array .int
  | 22 => .array .int
  | 23 => .array .int
  | 24 => .int
  | 25 => .array .int
  | 26 => .array .int
  | 27 => .array .int
  | 28 => .array .int
  | 29 => .array .int
  | 30 => .array .int
  | 31 => .array .int
  | 32 => .array .int
  | _ => .array .int
theorem nm_M : ∀ a, a < 34 → ∀ b, b < 34 → a ≠ b → (T_M a).2.1 ≠ (T_M b).2.1 := by decide +kernel
theorem ty_M_ok : ∀ k, k < 34 → parseFieldDescriptor (T_M k).2.2.1 = some (ty_M k) := by decide +kernel
theorem in_M : ∀ w ∈ u_ws "InSyncLogModel" T_M 34, w ∈ wsBig := by
  show ∀ w ∈ [u_lay "InSyncLogModel" T_M 0, u_lay "InSyncLogModel" T_M 1, u_lay "InSyncLogModel" T_M 2, u_lay "InSyncLogModel" T_M 3, u_lay "InSyncLogModel" T_M 4, u_lay "InSyncLogModel" T_M 5, u_lay "InSyncLogModel" T_M 6, u_lay "InSyncLogModel" T_M 7, u_lay "InSyncLogModel" T_M 8, u_lay "InSyncLogModel" T_M 9, u_lay "InSyncLogModel" T_M 10, u_lay "InSyncLogModel" T_M 11, u_lay "InSyncLogModel" T_M 12, u_lay "InSyncLogModel" T_M 13, u_lay "InSyncLogModel" T_M 14, u_lay "InSyncLogModel" T_M 15, u_lay "InSyncLogModel" T_M 16, u_lay "InSyncLogModel" T_M 17, u_lay "InSyncLogModel" T_M 18, u_lay "InSyncLogModel" T_M 19, u_lay "InSyncLogModel" T_M 20, u_lay "InSyncLogModel" T_M 21, u_lay "InSyncLogModel" T_M 22, u_lay "InSyncLogModel" T_M 23, u_lay "InSyncLogModel" T_M 24, u_lay "InSyncLogModel" T_M 25, u_lay "InSyncLogModel" T_M 26, u_lay "InSyncLogModel" T_M 27, u_lay "InSyncLogModel" T_M 28, u_lay "InSyncLogModel" T_M 29, u_lay "InSyncLogModel" T_M 30, u_lay "InSyncLogModel" T_M 31, u_lay "InSyncLogModel" T_M 32, u_lay "InSyncLogModel" T_M 33], w ∈ wsBig
  exact List.forall_mem_cons.mpr ⟨w514, List.forall_mem_cons.mpr ⟨w516, List.forall_mem_cons.mpr ⟨w518, List.forall_mem_cons.mpr ⟨w520, List.forall_mem_cons.mpr ⟨w522, List.forall_mem_cons.mpr ⟨w524, List.forall_mem_cons.mpr ⟨w526, List.forall_mem_cons.mpr ⟨w528, List.forall_mem_cons.mpr ⟨w530, List.forall_mem_cons.mpr ⟨w532, List.forall_mem_cons.mpr ⟨w534, List.forall_mem_cons.mpr ⟨w536, List.forall_mem_cons.mpr ⟨w538, List.forall_mem_cons.mpr ⟨w540, List.forall_mem_cons.mpr ⟨w542, List.forall_mem_cons.mpr ⟨w544, List.forall_mem_cons.mpr ⟨w546, List.forall_mem_cons.mpr ⟨w548, List.forall_mem_cons.mpr ⟨w550, List.forall_mem_cons.mpr ⟨w552, List.forall_mem_cons.mpr ⟨w554, List.forall_mem_cons.mpr ⟨w556, List.forall_mem_cons.mpr ⟨w558, List.forall_mem_cons.mpr ⟨w560, List.forall_mem_cons.mpr ⟨w562, List.forall_mem_cons.mpr ⟨w564, List.forall_mem_cons.mpr ⟨w566, List.forall_mem_cons.mpr ⟨w568, List.forall_mem_cons.mpr ⟨w570, List.forall_mem_cons.mpr ⟨w572, List.forall_mem_cons.mpr ⟨w574, List.forall_mem_cons.mpr ⟨w576, List.forall_mem_cons.mpr ⟨w578, List.forall_mem_cons.mpr ⟨w580, fun _ h => absurd h List.not_mem_nil⟩⟩⟩⟩⟩⟩⟩⟩⟩⟩⟩⟩⟩⟩⟩⟩⟩⟩⟩⟩⟩⟩⟩⟩⟩⟩⟩⟩⟩⟩⟩⟩⟩⟩
abbrev xcl : List vw_C := [("InSyncLog$Broker", T_B, 12), ("InSyncLog$Channel", T_H, 2), ("InSyncLog$Controller", T_T, 3), ("InSyncLog$Log", T_L, 3), ("InSyncLog$Message", T_G, 9), ("InSyncLog", T_I, 7), ("InSyncLogModel", T_M, 34)]
abbrev y_I_init : MethodName := ⟨"InSyncLog", "<init>", "(III)V"⟩
abbrev y_Obj_init : MethodName := ⟨"java/lang/Object", "<init>", "()V"⟩
abbrev y_I_nearest : MethodName := ⟨"InSyncLog", "nearest", "(III)I"⟩
abbrev y_Math_min : MethodName := ⟨"java/lang/Math", "min", "(II)I"⟩
abbrev y_Math_max : MethodName := ⟨"java/lang/Math", "max", "(II)I"⟩
abbrev y_T_init : MethodName := ⟨"InSyncLog$Controller", "<init>", "()V"⟩
abbrev y_H_init : MethodName := ⟨"InSyncLog$Channel", "<init>", "()V"⟩
abbrev y_G_init : MethodName := ⟨"InSyncLog$Message", "<init>", "()V"⟩
abbrev y_B_init : MethodName := ⟨"InSyncLog$Broker", "<init>", "(I)V"⟩
abbrev y_L_init : MethodName := ⟨"InSyncLog$Log", "<init>", "()V"⟩
abbrev y_Arr_fill : MethodName := ⟨"java/util/Arrays", "fill", "([II)V"⟩
abbrev y_I_produce : MethodName := ⟨"InSyncLog", "produce", "(II)I"⟩
abbrev y_I_isLeading : MethodName := ⟨"InSyncLog", "isLeading", "(I)Z"⟩
abbrev y_I_isBroker : MethodName := ⟨"InSyncLog", "isBroker", "(I)Z"⟩
abbrev y_B_leads : MethodName := ⟨"InSyncLog$Broker", "leads", "()Z"⟩
abbrev y_I_append : MethodName := ⟨"InSyncLog", "append", "(LInSyncLog$Broker;II)I"⟩
abbrev y_L_isFull : MethodName := ⟨"InSyncLog$Log", "isFull", "()Z"⟩
abbrev y_Int_bitCount : MethodName := ⟨"java/lang/Integer", "bitCount", "(I)I"⟩
abbrev y_L_add : MethodName := ⟨"InSyncLog$Log", "add", "(II)V"⟩
abbrev y_B_raiseHw : MethodName := ⟨"InSyncLog$Broker", "raiseHw", "()V"⟩
abbrev y_I_contains : MethodName := ⟨"InSyncLog", "contains", "(II)Z"⟩
abbrev y_I_commit : MethodName := ⟨"InSyncLog", "commit", "(II)I"⟩
abbrev y_I_readable : MethodName := ⟨"InSyncLog", "readable", "(II)I"⟩
abbrev y_L_has : MethodName := ⟨"InSyncLog$Log", "has", "(I)Z"⟩
abbrev y_L_isMark : MethodName := ⟨"InSyncLog$Log", "isMark", "(I)Z"⟩
abbrev y_L_stampOf : MethodName := ⟨"InSyncLog$Log", "stampOf", "(I)I"⟩
abbrev y_I_committed : MethodName := ⟨"InSyncLog", "committed", "(I)I"⟩
abbrev y_L_valueOf : MethodName := ⟨"InSyncLog$Log", "valueOf", "(I)I"⟩
abbrev y_I_fetch : MethodName := ⟨"InSyncLog", "fetch", "(I)Z"⟩
abbrev y_I_isUp : MethodName := ⟨"InSyncLog", "isUp", "(I)Z"⟩
abbrev y_L_lastEpoch : MethodName := ⟨"InSyncLog$Log", "lastEpoch", "()I"⟩
abbrev y_L_epochOf : MethodName := ⟨"InSyncLog$Log", "epochOf", "(I)I"⟩
abbrev y_Math_abs : MethodName := ⟨"java/lang/Math", "abs", "(I)I"⟩
abbrev y_H_send : MethodName := ⟨"InSyncLog$Channel", "send", "(ILInSyncLog$Broker;IIII)LInSyncLog$Message;"⟩
abbrev y_I_deliver : MethodName := ⟨"InSyncLog", "deliver", "(I)Z"⟩
abbrev y_H_take : MethodName := ⟨"InSyncLog$Channel", "take", "(I)LInSyncLog$Message;"⟩
abbrev y_H_has : MethodName := ⟨"InSyncLog$Channel", "has", "(I)Z"⟩
abbrev y_I_answer : MethodName := ⟨"InSyncLog", "answer", "(LInSyncLog$Broker;LInSyncLog$Message;)V"⟩
abbrev y_L_continues : MethodName := ⟨"InSyncLog$Log", "continues", "(II)Z"⟩
abbrev y_B_noteFetched : MethodName := ⟨"InSyncLog$Broker", "noteFetched", "(III)V"⟩
abbrev y_I_sendBatch : MethodName := ⟨"InSyncLog", "sendBatch", "(LInSyncLog$Broker;LInSyncLog$Message;)V"⟩
abbrev y_G_copyRecords : MethodName := ⟨"InSyncLog$Message", "copyRecords", "(LInSyncLog$Log;I)V"⟩
abbrev y_I_sendCut : MethodName := ⟨"InSyncLog", "sendCut", "(LInSyncLog$Broker;LInSyncLog$Message;)V"⟩
abbrev y_L_countUpTo : MethodName := ⟨"InSyncLog$Log", "countUpTo", "(I)I"⟩
abbrev y_B_accept : MethodName := ⟨"InSyncLog$Broker", "accept", "(LInSyncLog$Message;)V"⟩
abbrev y_B_isExpecting : MethodName := ⟨"InSyncLog$Broker", "isExpecting", "(LInSyncLog$Message;)Z"⟩
abbrev y_L_cutTo : MethodName := ⟨"InSyncLog$Log", "cutTo", "(I)V"⟩
abbrev y_G_appendRecords : MethodName := ⟨"InSyncLog$Message", "appendRecords", "(LInSyncLog$Log;)V"⟩
abbrev y_I_lose : MethodName := ⟨"InSyncLog", "lose", "(I)Z"⟩
abbrev y_I_flight : MethodName := ⟨"InSyncLog", "flight", "()I"⟩
abbrev y_I_message : MethodName := ⟨"InSyncLog", "message", "(II)I"⟩
abbrev y_G_word : MethodName := ⟨"InSyncLog$Message", "word", "(I)I"⟩
abbrev y_I_review : MethodName := ⟨"InSyncLog", "review", "(I)I"⟩
abbrev y_B_replicasInSync : MethodName := ⟨"InSyncLog$Broker", "replicasInSync", "(II)I"⟩
abbrev y_B_hasFetchedEnough : MethodName := ⟨"InSyncLog$Broker", "hasFetchedEnough", "(I)Z"⟩
abbrev y_I_learn : MethodName := ⟨"InSyncLog", "learn", "(I)Z"⟩
abbrev y_B_adopt : MethodName := ⟨"InSyncLog$Broker", "adopt", "(LInSyncLog$Controller;I)V"⟩
abbrev y_I_crash : MethodName := ⟨"InSyncLog", "crash", "(I)Z"⟩
abbrev y_B_goDown : MethodName := ⟨"InSyncLog$Broker", "goDown", "()V"⟩
abbrev y_I_restart : MethodName := ⟨"InSyncLog", "restart", "(I)Z"⟩
abbrev y_I_govern : MethodName := ⟨"InSyncLog", "govern", "(I)Z"⟩
abbrev y_T_reactTo : MethodName := ⟨"InSyncLog$Controller", "reactTo", "(I)Z"⟩
abbrev y_T_begin : MethodName := ⟨"InSyncLog$Controller", "begin", "(II)Z"⟩
abbrev y_I_leastOf : MethodName := ⟨"InSyncLog", "leastOf", "(I)I"⟩
abbrev y_I_tick : MethodName := ⟨"InSyncLog", "tick", "(I)Z"⟩
abbrev y_I_controller : MethodName := ⟨"InSyncLog", "controller", "(I)I"⟩
abbrev y_I_broker : MethodName := ⟨"InSyncLog", "broker", "(II)I"⟩
abbrev y_B_fact : MethodName := ⟨"InSyncLog$Broker", "fact", "(I)I"⟩
abbrev y_I_epochAt : MethodName := ⟨"InSyncLog", "epochAt", "(II)I"⟩
abbrev y_I_valueAt : MethodName := ⟨"InSyncLog", "valueAt", "(II)I"⟩
abbrev y_W_cell : MethodName := ⟨"InSyncLogLaw", "cell", "([II)I"⟩
abbrev y_M_init : MethodName := ⟨"InSyncLogModel", "<init>", "(III)V"⟩
abbrev y_M_takeOver : MethodName := ⟨"InSyncLogModel", "takeOver", "(I)V"⟩
abbrev y_M_produce : MethodName := ⟨"InSyncLogModel", "produce", "(II)I"⟩
abbrev y_M_leads : MethodName := ⟨"InSyncLogModel", "leads", "(I)Z"⟩
abbrev y_M_isBroker : MethodName := ⟨"InSyncLogModel", "isBroker", "(I)Z"⟩
abbrev y_M_append : MethodName := ⟨"InSyncLogModel", "append", "(IIZ)I"⟩
abbrev y_M_syncSize : MethodName := ⟨"InSyncLogModel", "syncSize", "(I)I"⟩
abbrev y_M_rise : MethodName := ⟨"InSyncLogModel", "rise", "(I)V"⟩
abbrev y_M_commit : MethodName := ⟨"InSyncLogModel", "commit", "(II)I"⟩
abbrev y_M_readable : MethodName := ⟨"InSyncLogModel", "readable", "(II)I"⟩
abbrev y_M_recordAt : MethodName := ⟨"InSyncLogModel", "recordAt", "(II)I"⟩
abbrev y_M_upTo : MethodName := ⟨"InSyncLogModel", "upTo", "(II)I"⟩
abbrev y_M_committed : MethodName := ⟨"InSyncLogModel", "committed", "(I)I"⟩
abbrev y_M_epochAt : MethodName := ⟨"InSyncLogModel", "epochAt", "(II)I"⟩
abbrev y_M_valueAt : MethodName := ⟨"InSyncLogModel", "valueAt", "(II)I"⟩
abbrev y_M_fetch : MethodName := ⟨"InSyncLogModel", "fetch", "(I)Z"⟩
abbrev y_M_send : MethodName := ⟨"InSyncLogModel", "send", "(IIIIIII)Z"⟩
abbrev y_M_lose : MethodName := ⟨"InSyncLogModel", "lose", "(I)Z"⟩
abbrev y_M_isMessage : MethodName := ⟨"InSyncLogModel", "isMessage", "(I)Z"⟩
abbrev y_M_remove : MethodName := ⟨"InSyncLogModel", "remove", "(I)V"⟩
abbrev y_M_move : MethodName := ⟨"InSyncLogModel", "move", "(II)V"⟩
abbrev y_M_flight : MethodName := ⟨"InSyncLogModel", "flight", "()I"⟩
abbrev y_M_message : MethodName := ⟨"InSyncLogModel", "message", "(II)I"⟩
abbrev y_M_deliver : MethodName := ⟨"InSyncLogModel", "deliver", "(I)Z"⟩
abbrev y_M_answer : MethodName := ⟨"InSyncLogModel", "answer", "(IIII)V"⟩
abbrev y_M_underEpoch : MethodName := ⟨"InSyncLogModel", "underEpoch", "(II)I"⟩
abbrev y_M_cut : MethodName := ⟨"InSyncLogModel", "cut", "(I)V"⟩
abbrev y_M_extend : MethodName := ⟨"InSyncLogModel", "extend", "(I)V"⟩
abbrev y_M_review : MethodName := ⟨"InSyncLogModel", "review", "(I)I"⟩
abbrev y_M_bits : MethodName := ⟨"InSyncLogModel", "bits", "(ZI)I"⟩
abbrev y_M_learn : MethodName := ⟨"InSyncLogModel", "learn", "(I)Z"⟩
abbrev y_M_crash : MethodName := ⟨"InSyncLogModel", "crash", "(I)Z"⟩
abbrev y_M_restart : MethodName := ⟨"InSyncLogModel", "restart", "(I)Z"⟩
abbrev y_M_govern : MethodName := ⟨"InSyncLogModel", "govern", "(I)Z"⟩
abbrev y_M_alive : MethodName := ⟨"InSyncLogModel", "alive", "(II)Z"⟩
abbrev y_M_tick : MethodName := ⟨"InSyncLogModel", "tick", "(I)Z"⟩
abbrev y_M_controller : MethodName := ⟨"InSyncLogModel", "controller", "(I)I"⟩
abbrev y_M_broker : MethodName := ⟨"InSyncLogModel", "broker", "(II)I"⟩
end
section
theorem d_I_init_0 : decode prog_1_method_1_code 0 = .ok (.aload_n 0, 1) := by decide +kernel
theorem d_I_init_1 : decode prog_1_method_1_code 1 = .ok (.invokespecial 1, 3) := by decide +kernel
theorem d_I_init_4 : decode prog_1_method_1_code 4 = .ok (.aload_n 0, 1) := by decide +kernel
theorem d_I_init_5 : decode prog_1_method_1_code 5 = .ok (.iload_n 1, 1) := by decide +kernel
theorem d_I_init_6 : decode prog_1_method_1_code 6 = .ok (.iconst 1, 1) := by decide +kernel
theorem d_I_init_7 : decode prog_1_method_1_code 7 = .ok (.bipush 20, 2) := by decide +kernel
theorem d_I_init_9 : decode prog_1_method_1_code 9 = .ok (.invokestatic 7, 3) := by decide +kernel
theorem d_I_init_12 : decode prog_1_method_1_code 12 = .ok (.putfield 13, 3) := by decide +kernel
theorem d_I_init_15 : decode prog_1_method_1_code 15 = .ok (.aload_n 0, 1) := by decide +kernel
theorem d_I_init_16 : decode prog_1_method_1_code 16 = .ok (.iload_n 2, 1) := by decide +kernel
theorem d_I_init_17 : decode prog_1_method_1_code 17 = .ok (.iconst 1, 1) := by decide +kernel
theorem d_I_init_18 : decode prog_1_method_1_code 18 = .ok (.iconst 3, 1) := by decide +kernel
theorem d_I_init_19 : decode prog_1_method_1_code 19 = .ok (.invokestatic 7, 3) := by decide +kernel
theorem d_I_init_22 : decode prog_1_method_1_code 22 = .ok (.putfield 17, 3) := by decide +kernel
theorem d_I_init_25 : decode prog_1_method_1_code 25 = .ok (.aload_n 0, 1) := by decide +kernel
theorem d_I_init_26 : decode prog_1_method_1_code 26 = .ok (.iload_n 3, 1) := by decide +kernel
theorem d_I_init_27 : decode prog_1_method_1_code 27 = .ok (.iconst 1, 1) := by decide +kernel
theorem d_I_init_28 : decode prog_1_method_1_code 28 = .ok (.iconst 3, 1) := by decide +kernel
theorem d_I_init_29 : decode prog_1_method_1_code 29 = .ok (.invokestatic 7, 3) := by decide +kernel
theorem d_I_init_32 : decode prog_1_method_1_code 32 = .ok (.putfield 20, 3) := by decide +kernel
theorem d_I_init_35 : decode prog_1_method_1_code 35 = .ok (.aload_n 0, 1) := by decide +kernel
theorem d_I_init_36 : decode prog_1_method_1_code 36 = .ok (.new 23, 3) := by decide +kernel
theorem d_I_init_39 : decode prog_1_method_1_code 39 = .ok (.dup, 1) := by decide +kernel
theorem d_I_init_40 : decode prog_1_method_1_code 40 = .ok (.invokespecial 25, 3) := by decide +kernel
theorem d_I_init_43 : decode prog_1_method_1_code 43 = .ok (.putfield 26, 3) := by decide +kernel
theorem d_I_init_46 : decode prog_1_method_1_code 46 = .ok (.aload_n 0, 1) := by decide +kernel
theorem d_I_init_47 : decode prog_1_method_1_code 47 = .ok (.new 30, 3) := by decide +kernel
theorem d_I_init_50 : decode prog_1_method_1_code 50 = .ok (.dup, 1) := by decide +kernel
theorem d_I_init_51 : decode prog_1_method_1_code 51 = .ok (.invokespecial 32, 3) := by decide +kernel
theorem d_I_init_54 : decode prog_1_method_1_code 54 = .ok (.putfield 33, 3) := by decide +kernel
theorem d_I_init_57 : decode prog_1_method_1_code 57 = .ok (.aload_n 0, 1) := by decide +kernel
theorem d_I_init_58 : decode prog_1_method_1_code 58 = .ok (.iconst 4, 1) := by decide +kernel
theorem d_I_init_59 : decode prog_1_method_1_code 59 = .ok (.anewarray 37, 3) := by decide +kernel
theorem d_I_init_62 : decode prog_1_method_1_code 62 = .ok (.putfield 39, 3) := by decide +kernel
theorem d_I_init_65 : decode prog_1_method_1_code 65 = .ok (.iconst 0, 1) := by decide +kernel
theorem d_I_init_66 : decode prog_1_method_1_code 66 = .ok (.istore 4, 2) := by decide +kernel
theorem d_I_init_68 : decode prog_1_method_1_code 68 = .ok (.iload 4, 2) := by decide +kernel
theorem d_I_init_70 : decode prog_1_method_1_code 70 = .ok (.iconst 4, 1) := by decide +kernel
theorem d_I_init_71 : decode prog_1_method_1_code 71 = .ok (.if_icmp .ge 25, 3) := by decide +kernel
theorem d_I_init_74 : decode prog_1_method_1_code 74 = .ok (.aload_n 0, 1) := by decide +kernel
theorem d_I_init_75 : decode prog_1_method_1_code 75 = .ok (.getfield 39, 3) := by decide +kernel
theorem d_I_init_78 : decode prog_1_method_1_code 78 = .ok (.iload 4, 2) := by decide +kernel
theorem d_I_init_80 : decode prog_1_method_1_code 80 = .ok (.new 37, 3) := by decide +kernel
theorem d_I_init_83 : decode prog_1_method_1_code 83 = .ok (.dup, 1) := by decide +kernel
theorem d_I_init_84 : decode prog_1_method_1_code 84 = .ok (.iload 4, 2) := by decide +kernel
theorem d_I_init_86 : decode prog_1_method_1_code 86 = .ok (.invokespecial 43, 3) := by decide +kernel
theorem d_I_init_89 : decode prog_1_method_1_code 89 = .ok (.aastore, 1) := by decide +kernel
theorem d_I_init_90 : decode prog_1_method_1_code 90 = .ok (.iinc 4 1, 3) := by decide +kernel
theorem d_I_init_93 : decode prog_1_method_1_code 93 = .ok (.goto (-25), 3) := by decide +kernel
theorem d_I_init_96 : decode prog_1_method_1_code 96 = .ok (.return_, 1) := by decide +kernel
theorem d_I_nearest_0 : decode prog_1_method_21_code 0 = .ok (.iload_n 1, 1) := by decide +kernel
theorem d_I_nearest_1 : decode prog_1_method_21_code 1 = .ok (.iload_n 2, 1) := by decide +kernel
theorem d_I_nearest_2 : decode prog_1_method_21_code 2 = .ok (.iload_n 0, 1) := by decide +kernel
theorem d_I_nearest_3 : decode prog_1_method_21_code 3 = .ok (.invokestatic 179, 3) := by decide +kernel
theorem d_I_nearest_6 : decode prog_1_method_21_code 6 = .ok (.invokestatic 184, 3) := by decide +kernel
theorem d_I_nearest_9 : decode prog_1_method_21_code 9 = .ok (.ireturn, 1) := by decide +kernel
theorem d_T_init_0 : decode prog_4_method_1_code 0 = .ok (.aload_n 0, 1) := by decide +kernel
theorem d_T_init_1 : decode prog_4_method_1_code 1 = .ok (.invokespecial 3, 3) := by decide +kernel
theorem d_T_init_4 : decode prog_4_method_1_code 4 = .ok (.aload_n 0, 1) := by decide +kernel
theorem d_T_init_5 : decode prog_4_method_1_code 5 = .ok (.iconst 1, 1) := by decide +kernel
theorem d_T_init_6 : decode prog_4_method_1_code 6 = .ok (.putfield 9, 3) := by decide +kernel
theorem d_T_init_9 : decode prog_4_method_1_code 9 = .ok (.aload_n 0, 1) := by decide +kernel
theorem d_T_init_10 : decode prog_4_method_1_code 10 = .ok (.iconst 0, 1) := by decide +kernel
theorem d_T_init_11 : decode prog_4_method_1_code 11 = .ok (.putfield 15, 3) := by decide +kernel
theorem d_T_init_14 : decode prog_4_method_1_code 14 = .ok (.aload_n 0, 1) := by decide +kernel
theorem d_T_init_15 : decode prog_4_method_1_code 15 = .ok (.bipush 15, 2) := by decide +kernel
theorem d_T_init_17 : decode prog_4_method_1_code 17 = .ok (.putfield 18, 3) := by decide +kernel
theorem d_T_init_20 : decode prog_4_method_1_code 20 = .ok (.return_, 1) := by decide +kernel
theorem d_H_init_0 : decode prog_3_method_1_code 0 = .ok (.aload_n 0, 1) := by decide +kernel
theorem d_H_init_1 : decode prog_3_method_1_code 1 = .ok (.invokespecial 3, 3) := by decide +kernel
theorem d_H_init_4 : decode prog_3_method_1_code 4 = .ok (.aload_n 0, 1) := by decide +kernel
theorem d_H_init_5 : decode prog_3_method_1_code 5 = .ok (.bipush 9, 2) := by decide +kernel
theorem d_H_init_7 : decode prog_3_method_1_code 7 = .ok (.anewarray 9, 3) := by decide +kernel
theorem d_H_init_10 : decode prog_3_method_1_code 10 = .ok (.putfield 11, 3) := by decide +kernel
theorem d_H_init_13 : decode prog_3_method_1_code 13 = .ok (.aload_n 0, 1) := by decide +kernel
theorem d_H_init_14 : decode prog_3_method_1_code 14 = .ok (.iconst 0, 1) := by decide +kernel
theorem d_H_init_15 : decode prog_3_method_1_code 15 = .ok (.putfield 17, 3) := by decide +kernel
theorem d_H_init_18 : decode prog_3_method_1_code 18 = .ok (.iconst 0, 1) := by decide +kernel
theorem d_H_init_19 : decode prog_3_method_1_code 19 = .ok (.istore_n 1, 1) := by decide +kernel
theorem d_H_init_20 : decode prog_3_method_1_code 20 = .ok (.iload_n 1, 1) := by decide +kernel
theorem d_H_init_21 : decode prog_3_method_1_code 21 = .ok (.bipush 8, 2) := by decide +kernel
theorem d_H_init_23 : decode prog_3_method_1_code 23 = .ok (.if_icmp .gt 22, 3) := by decide +kernel
theorem d_H_init_26 : decode prog_3_method_1_code 26 = .ok (.aload_n 0, 1) := by decide +kernel
theorem d_H_init_27 : decode prog_3_method_1_code 27 = .ok (.getfield 11, 3) := by decide +kernel
theorem d_H_init_30 : decode prog_3_method_1_code 30 = .ok (.iload_n 1, 1) := by decide +kernel
theorem d_H_init_31 : decode prog_3_method_1_code 31 = .ok (.new 9, 3) := by decide +kernel
theorem d_H_init_34 : decode prog_3_method_1_code 34 = .ok (.dup, 1) := by decide +kernel
theorem d_H_init_35 : decode prog_3_method_1_code 35 = .ok (.invokespecial 21, 3) := by decide +kernel
theorem d_H_init_38 : decode prog_3_method_1_code 38 = .ok (.aastore, 1) := by decide +kernel
theorem d_H_init_39 : decode prog_3_method_1_code 39 = .ok (.iinc 1 1, 3) := by decide +kernel
theorem d_H_init_42 : decode prog_3_method_1_code 42 = .ok (.goto (-22), 3) := by decide +kernel
theorem d_H_init_45 : decode prog_3_method_1_code 45 = .ok (.return_, 1) := by decide +kernel
theorem d_G_init_0 : decode prog_6_method_1_code 0 = .ok (.aload_n 0, 1) := by decide +kernel
theorem d_G_init_1 : decode prog_6_method_1_code 1 = .ok (.invokespecial 3, 3) := by decide +kernel
theorem d_G_init_4 : decode prog_6_method_1_code 4 = .ok (.aload_n 0, 1) := by decide +kernel
theorem d_G_init_5 : decode prog_6_method_1_code 5 = .ok (.iconst 3, 1) := by decide +kernel
theorem d_G_init_6 : decode prog_6_method_1_code 6 = .ok (.newarray .int, 2) := by decide +kernel
theorem d_G_init_8 : decode prog_6_method_1_code 8 = .ok (.putfield 9, 3) := by decide +kernel
theorem d_G_init_11 : decode prog_6_method_1_code 11 = .ok (.aload_n 0, 1) := by decide +kernel
theorem d_G_init_12 : decode prog_6_method_1_code 12 = .ok (.iconst 3, 1) := by decide +kernel
theorem d_G_init_13 : decode prog_6_method_1_code 13 = .ok (.newarray .int, 2) := by decide +kernel
theorem d_G_init_15 : decode prog_6_method_1_code 15 = .ok (.putfield 15, 3) := by decide +kernel
theorem d_G_init_18 : decode prog_6_method_1_code 18 = .ok (.return_, 1) := by decide +kernel
theorem d_B_init_0 : decode prog_2_method_1_code 0 = .ok (.aload_n 0, 1) := by decide +kernel
theorem d_B_init_1 : decode prog_2_method_1_code 1 = .ok (.invokespecial 3, 3) := by decide +kernel
theorem d_B_init_4 : decode prog_2_method_1_code 4 = .ok (.aload_n 0, 1) := by decide +kernel
theorem d_B_init_5 : decode prog_2_method_1_code 5 = .ok (.new 9, 3) := by decide +kernel
theorem d_B_init_8 : decode prog_2_method_1_code 8 = .ok (.dup, 1) := by decide +kernel
theorem d_B_init_9 : decode prog_2_method_1_code 9 = .ok (.invokespecial 11, 3) := by decide +kernel
theorem d_B_init_12 : decode prog_2_method_1_code 12 = .ok (.putfield 12, 3) := by decide +kernel
theorem d_B_init_15 : decode prog_2_method_1_code 15 = .ok (.aload_n 0, 1) := by decide +kernel
theorem d_B_init_16 : decode prog_2_method_1_code 16 = .ok (.iconst 4, 1) := by decide +kernel
theorem d_B_init_17 : decode prog_2_method_1_code 17 = .ok (.newarray .int, 2) := by decide +kernel
theorem d_B_init_19 : decode prog_2_method_1_code 19 = .ok (.putfield 18, 3) := by decide +kernel
theorem d_B_init_22 : decode prog_2_method_1_code 22 = .ok (.aload_n 0, 1) := by decide +kernel
theorem d_B_init_23 : decode prog_2_method_1_code 23 = .ok (.iconst 4, 1) := by decide +kernel
theorem d_B_init_24 : decode prog_2_method_1_code 24 = .ok (.newarray .int, 2) := by decide +kernel
theorem d_B_init_26 : decode prog_2_method_1_code 26 = .ok (.putfield 22, 3) := by decide +kernel
theorem d_B_init_29 : decode prog_2_method_1_code 29 = .ok (.aload_n 0, 1) := by decide +kernel
theorem d_B_init_30 : decode prog_2_method_1_code 30 = .ok (.iconst 1, 1) := by decide +kernel
theorem d_B_init_31 : decode prog_2_method_1_code 31 = .ok (.putfield 25, 3) := by decide +kernel
theorem d_B_init_34 : decode prog_2_method_1_code 34 = .ok (.aload_n 0, 1) := by decide +kernel
theorem d_B_init_35 : decode prog_2_method_1_code 35 = .ok (.iconst 1, 1) := by decide +kernel
theorem d_B_init_36 : decode prog_2_method_1_code 36 = .ok (.putfield 29, 3) := by decide +kernel
theorem d_B_init_39 : decode prog_2_method_1_code 39 = .ok (.aload_n 0, 1) := by decide +kernel
theorem d_B_init_40 : decode prog_2_method_1_code 40 = .ok (.iconst 0, 1) := by decide +kernel
theorem d_B_init_41 : decode prog_2_method_1_code 41 = .ok (.putfield 33, 3) := by decide +kernel
theorem d_B_init_44 : decode prog_2_method_1_code 44 = .ok (.aload_n 0, 1) := by decide +kernel
theorem d_B_init_45 : decode prog_2_method_1_code 45 = .ok (.iconst 0, 1) := by decide +kernel
theorem d_B_init_46 : decode prog_2_method_1_code 46 = .ok (.putfield 36, 3) := by decide +kernel
theorem d_B_init_49 : decode prog_2_method_1_code 49 = .ok (.aload_n 0, 1) := by decide +kernel
theorem d_B_init_50 : decode prog_2_method_1_code 50 = .ok (.iconst 0, 1) := by decide +kernel
theorem d_B_init_51 : decode prog_2_method_1_code 51 = .ok (.putfield 39, 3) := by decide +kernel
theorem d_B_init_54 : decode prog_2_method_1_code 54 = .ok (.aload_n 0, 1) := by decide +kernel
theorem d_B_init_55 : decode prog_2_method_1_code 55 = .ok (.iconst 0, 1) := by decide +kernel
theorem d_B_init_56 : decode prog_2_method_1_code 56 = .ok (.putfield 42, 3) := by decide +kernel
theorem d_B_init_59 : decode prog_2_method_1_code 59 = .ok (.aload_n 0, 1) := by decide +kernel
theorem d_B_init_60 : decode prog_2_method_1_code 60 = .ok (.iconst 0, 1) := by decide +kernel
theorem d_B_init_61 : decode prog_2_method_1_code 61 = .ok (.putfield 45, 3) := by decide +kernel
theorem d_B_init_64 : decode prog_2_method_1_code 64 = .ok (.aload_n 0, 1) := by decide +kernel
theorem d_B_init_65 : decode prog_2_method_1_code 65 = .ok (.bipush 15, 2) := by decide +kernel
theorem d_B_init_67 : decode prog_2_method_1_code 67 = .ok (.putfield 48, 3) := by decide +kernel
theorem d_B_init_70 : decode prog_2_method_1_code 70 = .ok (.aload_n 0, 1) := by decide +kernel
theorem d_B_init_71 : decode prog_2_method_1_code 71 = .ok (.iload_n 1, 1) := by decide +kernel
theorem d_B_init_72 : decode prog_2_method_1_code 72 = .ok (.putfield 51, 3) := by decide +kernel
theorem d_B_init_75 : decode prog_2_method_1_code 75 = .ok (.aload_n 0, 1) := by decide +kernel
theorem d_B_init_76 : decode prog_2_method_1_code 76 = .ok (.getfield 18, 3) := by decide +kernel
theorem d_B_init_79 : decode prog_2_method_1_code 79 = .ok (.iconst (-1), 1) := by decide +kernel
theorem d_B_init_80 : decode prog_2_method_1_code 80 = .ok (.invokestatic 54, 3) := by decide +kernel
theorem d_B_init_83 : decode prog_2_method_1_code 83 = .ok (.return_, 1) := by decide +kernel
theorem d_L_init_0 : decode prog_5_method_1_code 0 = .ok (.aload_n 0, 1) := by decide +kernel
theorem d_L_init_1 : decode prog_5_method_1_code 1 = .ok (.invokespecial 3, 3) := by decide +kernel
theorem d_L_init_4 : decode prog_5_method_1_code 4 = .ok (.aload_n 0, 1) := by decide +kernel
theorem d_L_init_5 : decode prog_5_method_1_code 5 = .ok (.bipush 40, 2) := by decide +kernel
theorem d_L_init_7 : decode prog_5_method_1_code 7 = .ok (.newarray .int, 2) := by decide +kernel
theorem d_L_init_9 : decode prog_5_method_1_code 9 = .ok (.putfield 9, 3) := by decide +kernel
theorem d_L_init_12 : decode prog_5_method_1_code 12 = .ok (.aload_n 0, 1) := by decide +kernel
theorem d_L_init_13 : decode prog_5_method_1_code 13 = .ok (.bipush 40, 2) := by decide +kernel
theorem d_L_init_15 : decode prog_5_method_1_code 15 = .ok (.newarray .int, 2) := by decide +kernel
theorem d_L_init_17 : decode prog_5_method_1_code 17 = .ok (.putfield 15, 3) := by decide +kernel
theorem d_L_init_20 : decode prog_5_method_1_code 20 = .ok (.aload_n 0, 1) := by decide +kernel
theorem d_L_init_21 : decode prog_5_method_1_code 21 = .ok (.iconst 0, 1) := by decide +kernel
theorem d_L_init_22 : decode prog_5_method_1_code 22 = .ok (.putfield 18, 3) := by decide +kernel
theorem d_L_init_25 : decode prog_5_method_1_code 25 = .ok (.return_, 1) := by decide +kernel
theorem d_Arr_fill_0 : decode prog_11_method_103_code 0 = .ok (.iconst 0, 1) := by decide +kernel
theorem d_Arr_fill_1 : decode prog_11_method_103_code 1 = .ok (.istore_n 2, 1) := by decide +kernel
theorem d_Arr_fill_2 : decode prog_11_method_103_code 2 = .ok (.aload_n 0, 1) := by decide +kernel
theorem d_Arr_fill_3 : decode prog_11_method_103_code 3 = .ok (.arraylength, 1) := by decide +kernel
theorem d_Arr_fill_4 : decode prog_11_method_103_code 4 = .ok (.istore_n 3, 1) := by decide +kernel
theorem d_Arr_fill_5 : decode prog_11_method_103_code 5 = .ok (.iload_n 2, 1) := by decide +kernel
theorem d_Arr_fill_6 : decode prog_11_method_103_code 6 = .ok (.iload_n 3, 1) := by decide +kernel
theorem d_Arr_fill_7 : decode prog_11_method_103_code 7 = .ok (.if_icmp .ge 13, 3) := by decide +kernel
theorem d_Arr_fill_10 : decode prog_11_method_103_code 10 = .ok (.aload_n 0, 1) := by decide +kernel
theorem d_Arr_fill_11 : decode prog_11_method_103_code 11 = .ok (.iload_n 2, 1) := by decide +kernel
theorem d_Arr_fill_12 : decode prog_11_method_103_code 12 = .ok (.iload_n 1, 1) := by decide +kernel
theorem d_Arr_fill_13 : decode prog_11_method_103_code 13 = .ok (.iastore, 1) := by decide +kernel
theorem d_Arr_fill_14 : decode prog_11_method_103_code 14 = .ok (.iinc 2 1, 3) := by decide +kernel
theorem d_Arr_fill_17 : decode prog_11_method_103_code 17 = .ok (.goto (-12), 3) := by decide +kernel
theorem d_Arr_fill_20 : decode prog_11_method_103_code 20 = .ok (.return_, 1) := by decide +kernel
theorem d_I_produce_0 : decode prog_1_method_2_code 0 = .ok (.aload_n 0, 1) := by decide +kernel
theorem d_I_produce_1 : decode prog_1_method_2_code 1 = .ok (.iload_n 1, 1) := by decide +kernel
theorem d_I_produce_2 : decode prog_1_method_2_code 2 = .ok (.invokevirtual 46, 3) := by decide +kernel
theorem d_I_produce_5 : decode prog_1_method_2_code 5 = .ok (.ifCond .ne 5, 3) := by decide +kernel
theorem d_I_produce_8 : decode prog_1_method_2_code 8 = .ok (.iconst (-1), 1) := by decide +kernel
theorem d_I_produce_9 : decode prog_1_method_2_code 9 = .ok (.ireturn, 1) := by decide +kernel
theorem d_I_produce_10 : decode prog_1_method_2_code 10 = .ok (.aload_n 0, 1) := by decide +kernel
theorem d_I_produce_11 : decode prog_1_method_2_code 11 = .ok (.aload_n 0, 1) := by decide +kernel
theorem d_I_produce_12 : decode prog_1_method_2_code 12 = .ok (.getfield 39, 3) := by decide +kernel
theorem d_I_produce_15 : decode prog_1_method_2_code 15 = .ok (.iload_n 1, 1) := by decide +kernel
theorem d_I_produce_16 : decode prog_1_method_2_code 16 = .ok (.aaload, 1) := by decide +kernel
theorem d_I_produce_17 : decode prog_1_method_2_code 17 = .ok (.aload_n 0, 1) := by decide +kernel
theorem d_I_produce_18 : decode prog_1_method_2_code 18 = .ok (.getfield 39, 3) := by decide +kernel
theorem d_I_produce_21 : decode prog_1_method_2_code 21 = .ok (.iload_n 1, 1) := by decide +kernel
theorem d_I_produce_22 : decode prog_1_method_2_code 22 = .ok (.aaload, 1) := by decide +kernel
theorem d_I_produce_23 : decode prog_1_method_2_code 23 = .ok (.getfield 50, 3) := by decide +kernel
theorem d_I_produce_26 : decode prog_1_method_2_code 26 = .ok (.iload_n 2, 1) := by decide +kernel
theorem d_I_produce_27 : decode prog_1_method_2_code 27 = .ok (.invokevirtual 53, 3) := by decide +kernel
theorem d_I_produce_30 : decode prog_1_method_2_code 30 = .ok (.ireturn, 1) := by decide +kernel
theorem d_I_isLeading_0 : decode prog_1_method_26_code 0 = .ok (.iload_n 1, 1) := by decide +kernel
theorem d_I_isLeading_1 : decode prog_1_method_26_code 1 = .ok (.invokestatic 159, 3) := by decide +kernel
theorem d_I_isLeading_4 : decode prog_1_method_26_code 4 = .ok (.ifCond .eq 19, 3) := by decide +kernel
theorem d_I_isLeading_7 : decode prog_1_method_26_code 7 = .ok (.aload_n 0, 1) := by decide +kernel
theorem d_I_isLeading_8 : decode prog_1_method_26_code 8 = .ok (.getfield 39, 3) := by decide +kernel
theorem d_I_isLeading_11 : decode prog_1_method_26_code 11 = .ok (.iload_n 1, 1) := by decide +kernel
theorem d_I_isLeading_12 : decode prog_1_method_26_code 12 = .ok (.aaload, 1) := by decide +kernel
theorem d_I_isLeading_13 : decode prog_1_method_26_code 13 = .ok (.invokevirtual 79, 3) := by decide +kernel
theorem d_I_isLeading_16 : decode prog_1_method_26_code 16 = .ok (.ifCond .eq 7, 3) := by decide +kernel
theorem d_I_isLeading_19 : decode prog_1_method_26_code 19 = .ok (.iconst 1, 1) := by decide +kernel
theorem d_I_isLeading_20 : decode prog_1_method_26_code 20 = .ok (.goto 4, 3) := by decide +kernel
theorem d_I_isLeading_23 : decode prog_1_method_26_code 23 = .ok (.iconst 0, 1) := by decide +kernel
theorem d_I_isLeading_24 : decode prog_1_method_26_code 24 = .ok (.ireturn, 1) := by decide +kernel
theorem d_I_isBroker_0 : decode prog_1_method_22_code 0 = .ok (.iload_n 0, 1) := by decide +kernel
theorem d_I_isBroker_1 : decode prog_1_method_22_code 1 = .ok (.ifCond .lt 12, 3) := by decide +kernel
theorem d_I_isBroker_4 : decode prog_1_method_22_code 4 = .ok (.iload_n 0, 1) := by decide +kernel
theorem d_I_isBroker_5 : decode prog_1_method_22_code 5 = .ok (.iconst 4, 1) := by decide +kernel
theorem d_I_isBroker_6 : decode prog_1_method_22_code 6 = .ok (.if_icmp .ge 7, 3) := by decide +kernel
theorem d_I_isBroker_9 : decode prog_1_method_22_code 9 = .ok (.iconst 1, 1) := by decide +kernel
theorem d_I_isBroker_10 : decode prog_1_method_22_code 10 = .ok (.goto 4, 3) := by decide +kernel
theorem d_I_isBroker_13 : decode prog_1_method_22_code 13 = .ok (.iconst 0, 1) := by decide +kernel
theorem d_I_isBroker_14 : decode prog_1_method_22_code 14 = .ok (.ireturn, 1) := by decide +kernel
theorem d_B_leads_0 : decode prog_2_method_2_code 0 = .ok (.aload_n 0, 1) := by decide +kernel
theorem d_B_leads_1 : decode prog_2_method_2_code 1 = .ok (.getfield 25, 3) := by decide +kernel
theorem d_B_leads_4 : decode prog_2_method_2_code 4 = .ok (.ifCond .eq 18, 3) := by decide +kernel
theorem d_B_leads_7 : decode prog_2_method_2_code 7 = .ok (.aload_n 0, 1) := by decide +kernel
theorem d_B_leads_8 : decode prog_2_method_2_code 8 = .ok (.getfield 33, 3) := by decide +kernel
theorem d_B_leads_11 : decode prog_2_method_2_code 11 = .ok (.aload_n 0, 1) := by decide +kernel
theorem d_B_leads_12 : decode prog_2_method_2_code 12 = .ok (.getfield 51, 3) := by decide +kernel
theorem d_B_leads_15 : decode prog_2_method_2_code 15 = .ok (.if_icmp .ne 7, 3) := by decide +kernel
theorem d_B_leads_18 : decode prog_2_method_2_code 18 = .ok (.iconst 1, 1) := by decide +kernel
theorem d_B_leads_19 : decode prog_2_method_2_code 19 = .ok (.goto 4, 3) := by decide +kernel
theorem d_B_leads_22 : decode prog_2_method_2_code 22 = .ok (.iconst 0, 1) := by decide +kernel
theorem d_B_leads_23 : decode prog_2_method_2_code 23 = .ok (.ireturn, 1) := by decide +kernel
theorem d_I_append_0 : decode prog_1_method_27_code 0 = .ok (.aload_n 1, 1) := by decide +kernel
theorem d_I_append_1 : decode prog_1_method_27_code 1 = .ok (.getfield 60, 3) := by decide +kernel
theorem d_I_append_4 : decode prog_1_method_27_code 4 = .ok (.invokevirtual 187, 3) := by decide +kernel
theorem d_I_append_7 : decode prog_1_method_27_code 7 = .ok (.ifCond .eq 6, 3) := by decide +kernel
theorem d_I_append_10 : decode prog_1_method_27_code 10 = .ok (.bipush (-2), 2) := by decide +kernel
theorem d_I_append_12 : decode prog_1_method_27_code 12 = .ok (.ireturn, 1) := by decide +kernel
theorem d_I_append_13 : decode prog_1_method_27_code 13 = .ok (.aload_n 1, 1) := by decide +kernel
theorem d_I_append_14 : decode prog_1_method_27_code 14 = .ok (.getfield 146, 3) := by decide +kernel
theorem d_I_append_17 : decode prog_1_method_27_code 17 = .ok (.invokestatic 190, 3) := by decide +kernel
theorem d_I_append_20 : decode prog_1_method_27_code 20 = .ok (.aload_n 0, 1) := by decide +kernel
theorem d_I_append_21 : decode prog_1_method_27_code 21 = .ok (.getfield 20, 3) := by decide +kernel
theorem d_I_append_24 : decode prog_1_method_27_code 24 = .ok (.if_icmp .ge 6, 3) := by decide +kernel
theorem d_I_append_27 : decode prog_1_method_27_code 27 = .ok (.bipush (-3), 2) := by decide +kernel
theorem d_I_append_29 : decode prog_1_method_27_code 29 = .ok (.ireturn, 1) := by decide +kernel
theorem d_I_append_30 : decode prog_1_method_27_code 30 = .ok (.aload_n 1, 1) := by decide +kernel
theorem d_I_append_31 : decode prog_1_method_27_code 31 = .ok (.getfield 60, 3) := by decide +kernel
theorem d_I_append_34 : decode prog_1_method_27_code 34 = .ok (.iload_n 2, 1) := by decide +kernel
theorem d_I_append_35 : decode prog_1_method_27_code 35 = .ok (.iload_n 3, 1) := by decide +kernel
theorem d_I_append_36 : decode prog_1_method_27_code 36 = .ok (.invokevirtual 195, 3) := by decide +kernel
theorem d_I_append_39 : decode prog_1_method_27_code 39 = .ok (.aload_n 1, 1) := by decide +kernel
theorem d_I_append_40 : decode prog_1_method_27_code 40 = .ok (.invokevirtual 149, 3) := by decide +kernel
theorem d_I_append_43 : decode prog_1_method_27_code 43 = .ok (.aload_n 1, 1) := by decide +kernel
theorem d_I_append_44 : decode prog_1_method_27_code 44 = .ok (.getfield 60, 3) := by decide +kernel
theorem d_I_append_47 : decode prog_1_method_27_code 47 = .ok (.getfield 93, 3) := by decide +kernel
theorem d_I_append_50 : decode prog_1_method_27_code 50 = .ok (.iconst 1, 1) := by decide +kernel
theorem d_I_append_51 : decode prog_1_method_27_code 51 = .ok (.isub, 1) := by decide +kernel
theorem d_I_append_52 : decode prog_1_method_27_code 52 = .ok (.ireturn, 1) := by decide +kernel
theorem d_L_isFull_0 : decode prog_5_method_3_code 0 = .ok (.aload_n 0, 1) := by decide +kernel
theorem d_L_isFull_1 : decode prog_5_method_3_code 1 = .ok (.getfield 18, 3) := by decide +kernel
theorem d_L_isFull_4 : decode prog_5_method_3_code 4 = .ok (.bipush 40, 2) := by decide +kernel
theorem d_L_isFull_6 : decode prog_5_method_3_code 6 = .ok (.if_icmp .lt 7, 3) := by decide +kernel
theorem d_L_isFull_9 : decode prog_5_method_3_code 9 = .ok (.iconst 1, 1) := by decide +kernel
theorem d_L_isFull_10 : decode prog_5_method_3_code 10 = .ok (.goto 4, 3) := by decide +kernel
theorem d_L_isFull_13 : decode prog_5_method_3_code 13 = .ok (.iconst 0, 1) := by decide +kernel
theorem d_L_isFull_14 : decode prog_5_method_3_code 14 = .ok (.ireturn, 1) := by decide +kernel
theorem d_Int_bitCount_0 : decode prog_9_method_49_code 0 = .ok (.iload_n 0, 1) := by decide +kernel
theorem d_Int_bitCount_1 : decode prog_9_method_49_code 1 = .ok (.iload_n 0, 1) := by decide +kernel
theorem d_Int_bitCount_2 : decode prog_9_method_49_code 2 = .ok (.iconst 1, 1) := by decide +kernel
theorem d_Int_bitCount_3 : decode prog_9_method_49_code 3 = .ok (.iushr, 1) := by decide +kernel
theorem d_Int_bitCount_4 : decode prog_9_method_49_code 4 = .ok (.ldc_w 265, 3) := by decide +kernel
theorem d_Int_bitCount_7 : decode prog_9_method_49_code 7 = .ok (.iand, 1) := by decide +kernel
theorem d_Int_bitCount_8 : decode prog_9_method_49_code 8 = .ok (.isub, 1) := by decide +kernel
theorem d_Int_bitCount_9 : decode prog_9_method_49_code 9 = .ok (.istore_n 0, 1) := by decide +kernel
theorem d_Int_bitCount_10 : decode prog_9_method_49_code 10 = .ok (.iload_n 0, 1) := by decide +kernel
theorem d_Int_bitCount_11 : decode prog_9_method_49_code 11 = .ok (.ldc_w 266, 3) := by decide +kernel
theorem d_Int_bitCount_14 : decode prog_9_method_49_code 14 = .ok (.iand, 1) := by decide +kernel
theorem d_Int_bitCount_15 : decode prog_9_method_49_code 15 = .ok (.iload_n 0, 1) := by decide +kernel
theorem d_Int_bitCount_16 : decode prog_9_method_49_code 16 = .ok (.iconst 2, 1) := by decide +kernel
theorem d_Int_bitCount_17 : decode prog_9_method_49_code 17 = .ok (.iushr, 1) := by decide +kernel
theorem d_Int_bitCount_18 : decode prog_9_method_49_code 18 = .ok (.ldc_w 266, 3) := by decide +kernel
theorem d_Int_bitCount_21 : decode prog_9_method_49_code 21 = .ok (.iand, 1) := by decide +kernel
theorem d_Int_bitCount_22 : decode prog_9_method_49_code 22 = .ok (.iadd, 1) := by decide +kernel
theorem d_Int_bitCount_23 : decode prog_9_method_49_code 23 = .ok (.istore_n 0, 1) := by decide +kernel
theorem d_Int_bitCount_24 : decode prog_9_method_49_code 24 = .ok (.iload_n 0, 1) := by decide +kernel
theorem d_Int_bitCount_25 : decode prog_9_method_49_code 25 = .ok (.iload_n 0, 1) := by decide +kernel
theorem d_Int_bitCount_26 : decode prog_9_method_49_code 26 = .ok (.iconst 4, 1) := by decide +kernel
theorem d_Int_bitCount_27 : decode prog_9_method_49_code 27 = .ok (.iushr, 1) := by decide +kernel
theorem d_Int_bitCount_28 : decode prog_9_method_49_code 28 = .ok (.iadd, 1) := by decide +kernel
theorem d_Int_bitCount_29 : decode prog_9_method_49_code 29 = .ok (.ldc_w 267, 3) := by decide +kernel
theorem d_Int_bitCount_32 : decode prog_9_method_49_code 32 = .ok (.iand, 1) := by decide +kernel
theorem d_Int_bitCount_33 : decode prog_9_method_49_code 33 = .ok (.istore_n 0, 1) := by decide +kernel
theorem d_Int_bitCount_34 : decode prog_9_method_49_code 34 = .ok (.iload_n 0, 1) := by decide +kernel
theorem d_Int_bitCount_35 : decode prog_9_method_49_code 35 = .ok (.iload_n 0, 1) := by decide +kernel
theorem d_Int_bitCount_36 : decode prog_9_method_49_code 36 = .ok (.bipush 8, 2) := by decide +kernel
theorem d_Int_bitCount_38 : decode prog_9_method_49_code 38 = .ok (.iushr, 1) := by decide +kernel
theorem d_Int_bitCount_39 : decode prog_9_method_49_code 39 = .ok (.iadd, 1) := by decide +kernel
theorem d_Int_bitCount_40 : decode prog_9_method_49_code 40 = .ok (.istore_n 0, 1) := by decide +kernel
theorem d_Int_bitCount_41 : decode prog_9_method_49_code 41 = .ok (.iload_n 0, 1) := by decide +kernel
theorem d_Int_bitCount_42 : decode prog_9_method_49_code 42 = .ok (.iload_n 0, 1) := by decide +kernel
theorem d_Int_bitCount_43 : decode prog_9_method_49_code 43 = .ok (.bipush 16, 2) := by decide +kernel
theorem d_Int_bitCount_45 : decode prog_9_method_49_code 45 = .ok (.iushr, 1) := by decide +kernel
theorem d_Int_bitCount_46 : decode prog_9_method_49_code 46 = .ok (.iadd, 1) := by decide +kernel
theorem d_Int_bitCount_47 : decode prog_9_method_49_code 47 = .ok (.istore_n 0, 1) := by decide +kernel
theorem d_Int_bitCount_48 : decode prog_9_method_49_code 48 = .ok (.iload_n 0, 1) := by decide +kernel
theorem d_Int_bitCount_49 : decode prog_9_method_49_code 49 = .ok (.bipush 63, 2) := by decide +kernel
theorem d_Int_bitCount_51 : decode prog_9_method_49_code 51 = .ok (.iand, 1) := by decide +kernel
theorem d_Int_bitCount_52 : decode prog_9_method_49_code 52 = .ok (.ireturn, 1) := by decide +kernel
theorem d_L_add_0 : decode prog_5_method_9_code 0 = .ok (.aload_n 0, 1) := by decide +kernel
theorem d_L_add_1 : decode prog_5_method_9_code 1 = .ok (.invokevirtual 38, 3) := by decide +kernel
theorem d_L_add_4 : decode prog_5_method_9_code 4 = .ok (.ifCond .eq 4, 3) := by decide +kernel
theorem d_L_add_7 : decode prog_5_method_9_code 7 = .ok (.return_, 1) := by decide +kernel
theorem d_L_add_8 : decode prog_5_method_9_code 8 = .ok (.aload_n 0, 1) := by decide +kernel
theorem d_L_add_9 : decode prog_5_method_9_code 9 = .ok (.getfield 9, 3) := by decide +kernel
theorem d_L_add_12 : decode prog_5_method_9_code 12 = .ok (.aload_n 0, 1) := by decide +kernel
theorem d_L_add_13 : decode prog_5_method_9_code 13 = .ok (.getfield 18, 3) := by decide +kernel
theorem d_L_add_16 : decode prog_5_method_9_code 16 = .ok (.iload_n 1, 1) := by decide +kernel
theorem d_L_add_17 : decode prog_5_method_9_code 17 = .ok (.iastore, 1) := by decide +kernel
theorem d_L_add_18 : decode prog_5_method_9_code 18 = .ok (.aload_n 0, 1) := by decide +kernel
theorem d_L_add_19 : decode prog_5_method_9_code 19 = .ok (.getfield 15, 3) := by decide +kernel
theorem d_L_add_22 : decode prog_5_method_9_code 22 = .ok (.aload_n 0, 1) := by decide +kernel
theorem d_L_add_23 : decode prog_5_method_9_code 23 = .ok (.getfield 18, 3) := by decide +kernel
theorem d_L_add_26 : decode prog_5_method_9_code 26 = .ok (.iload_n 2, 1) := by decide +kernel
theorem d_L_add_27 : decode prog_5_method_9_code 27 = .ok (.iastore, 1) := by decide +kernel
theorem d_L_add_28 : decode prog_5_method_9_code 28 = .ok (.aload_n 0, 1) := by decide +kernel
theorem d_L_add_29 : decode prog_5_method_9_code 29 = .ok (.dup, 1) := by decide +kernel
theorem d_L_add_30 : decode prog_5_method_9_code 30 = .ok (.getfield 18, 3) := by decide +kernel
theorem d_L_add_33 : decode prog_5_method_9_code 33 = .ok (.iconst 1, 1) := by decide +kernel
theorem d_L_add_34 : decode prog_5_method_9_code 34 = .ok (.iadd, 1) := by decide +kernel
theorem d_L_add_35 : decode prog_5_method_9_code 35 = .ok (.putfield 18, 3) := by decide +kernel
theorem d_L_add_38 : decode prog_5_method_9_code 38 = .ok (.return_, 1) := by decide +kernel
theorem d_B_raiseHw_0 : decode prog_2_method_7_code 0 = .ok (.aload_n 0, 1) := by decide +kernel
theorem d_B_raiseHw_1 : decode prog_2_method_7_code 1 = .ok (.getfield 12, 3) := by decide +kernel
theorem d_B_raiseHw_4 : decode prog_2_method_7_code 4 = .ok (.getfield 64, 3) := by decide +kernel
theorem d_B_raiseHw_7 : decode prog_2_method_7_code 7 = .ok (.istore_n 1, 1) := by decide +kernel
theorem d_B_raiseHw_8 : decode prog_2_method_7_code 8 = .ok (.iconst 0, 1) := by decide +kernel
theorem d_B_raiseHw_9 : decode prog_2_method_7_code 9 = .ok (.istore_n 2, 1) := by decide +kernel
theorem d_B_raiseHw_10 : decode prog_2_method_7_code 10 = .ok (.iload_n 2, 1) := by decide +kernel
theorem d_B_raiseHw_11 : decode prog_2_method_7_code 11 = .ok (.iconst 4, 1) := by decide +kernel
theorem d_B_raiseHw_12 : decode prog_2_method_7_code 12 = .ok (.if_icmp .ge 39, 3) := by decide +kernel
theorem d_B_raiseHw_15 : decode prog_2_method_7_code 15 = .ok (.iload_n 2, 1) := by decide +kernel
theorem d_B_raiseHw_16 : decode prog_2_method_7_code 16 = .ok (.aload_n 0, 1) := by decide +kernel
theorem d_B_raiseHw_17 : decode prog_2_method_7_code 17 = .ok (.getfield 51, 3) := by decide +kernel
theorem d_B_raiseHw_20 : decode prog_2_method_7_code 20 = .ok (.if_icmp .eq 25, 3) := by decide +kernel
theorem d_B_raiseHw_23 : decode prog_2_method_7_code 23 = .ok (.aload_n 0, 1) := by decide +kernel
theorem d_B_raiseHw_24 : decode prog_2_method_7_code 24 = .ok (.getfield 48, 3) := by decide +kernel
theorem d_B_raiseHw_27 : decode prog_2_method_7_code 27 = .ok (.iload_n 2, 1) := by decide +kernel
theorem d_B_raiseHw_28 : decode prog_2_method_7_code 28 = .ok (.invokestatic 83, 3) := by decide +kernel
theorem d_B_raiseHw_31 : decode prog_2_method_7_code 31 = .ok (.ifCond .eq 14, 3) := by decide +kernel
theorem d_B_raiseHw_34 : decode prog_2_method_7_code 34 = .ok (.iload_n 1, 1) := by decide +kernel
theorem d_B_raiseHw_35 : decode prog_2_method_7_code 35 = .ok (.aload_n 0, 1) := by decide +kernel
theorem d_B_raiseHw_36 : decode prog_2_method_7_code 36 = .ok (.getfield 18, 3) := by decide +kernel
theorem d_B_raiseHw_39 : decode prog_2_method_7_code 39 = .ok (.iload_n 2, 1) := by decide +kernel
theorem d_B_raiseHw_40 : decode prog_2_method_7_code 40 = .ok (.iaload, 1) := by decide +kernel
theorem d_B_raiseHw_41 : decode prog_2_method_7_code 41 = .ok (.invokestatic 87, 3) := by decide +kernel
theorem d_B_raiseHw_44 : decode prog_2_method_7_code 44 = .ok (.istore_n 1, 1) := by decide +kernel
theorem d_B_raiseHw_45 : decode prog_2_method_7_code 45 = .ok (.iinc 2 1, 3) := by decide +kernel
theorem d_B_raiseHw_48 : decode prog_2_method_7_code 48 = .ok (.goto (-38), 3) := by decide +kernel
theorem d_B_raiseHw_51 : decode prog_2_method_7_code 51 = .ok (.aload_n 0, 1) := by decide +kernel
theorem d_B_raiseHw_52 : decode prog_2_method_7_code 52 = .ok (.aload_n 0, 1) := by decide +kernel
theorem d_B_raiseHw_53 : decode prog_2_method_7_code 53 = .ok (.getfield 36, 3) := by decide +kernel
theorem d_B_raiseHw_56 : decode prog_2_method_7_code 56 = .ok (.iload_n 1, 1) := by decide +kernel
theorem d_B_raiseHw_57 : decode prog_2_method_7_code 57 = .ok (.invokestatic 74, 3) := by decide +kernel
theorem d_B_raiseHw_60 : decode prog_2_method_7_code 60 = .ok (.putfield 36, 3) := by decide +kernel
theorem d_B_raiseHw_63 : decode prog_2_method_7_code 63 = .ok (.return_, 1) := by decide +kernel
theorem d_I_contains_0 : decode prog_1_method_23_code 0 = .ok (.iload_n 0, 1) := by decide +kernel
theorem d_I_contains_1 : decode prog_1_method_23_code 1 = .ok (.iload_n 1, 1) := by decide +kernel
theorem d_I_contains_2 : decode prog_1_method_23_code 2 = .ok (.ishr, 1) := by decide +kernel
theorem d_I_contains_3 : decode prog_1_method_23_code 3 = .ok (.iconst 1, 1) := by decide +kernel
theorem d_I_contains_4 : decode prog_1_method_23_code 4 = .ok (.iand, 1) := by decide +kernel
theorem d_I_contains_5 : decode prog_1_method_23_code 5 = .ok (.iconst 1, 1) := by decide +kernel
theorem d_I_contains_6 : decode prog_1_method_23_code 6 = .ok (.if_icmp .ne 7, 3) := by decide +kernel
theorem d_I_contains_9 : decode prog_1_method_23_code 9 = .ok (.iconst 1, 1) := by decide +kernel
theorem d_I_contains_10 : decode prog_1_method_23_code 10 = .ok (.goto 4, 3) := by decide +kernel
theorem d_I_contains_13 : decode prog_1_method_23_code 13 = .ok (.iconst 0, 1) := by decide +kernel
theorem d_I_contains_14 : decode prog_1_method_23_code 14 = .ok (.ireturn, 1) := by decide +kernel
theorem d_I_commit_0 : decode prog_1_method_3_code 0 = .ok (.aload_n 0, 1) := by decide +kernel
theorem d_I_commit_1 : decode prog_1_method_3_code 1 = .ok (.iload_n 1, 1) := by decide +kernel
theorem d_I_commit_2 : decode prog_1_method_3_code 2 = .ok (.invokevirtual 46, 3) := by decide +kernel
theorem d_I_commit_5 : decode prog_1_method_3_code 5 = .ok (.ifCond .eq 20, 3) := by decide +kernel
theorem d_I_commit_8 : decode prog_1_method_3_code 8 = .ok (.iload_n 2, 1) := by decide +kernel
theorem d_I_commit_9 : decode prog_1_method_3_code 9 = .ok (.ifCond .lt 16, 3) := by decide +kernel
theorem d_I_commit_12 : decode prog_1_method_3_code 12 = .ok (.iload_n 2, 1) := by decide +kernel
theorem d_I_commit_13 : decode prog_1_method_3_code 13 = .ok (.aload_n 0, 1) := by decide +kernel
theorem d_I_commit_14 : decode prog_1_method_3_code 14 = .ok (.getfield 39, 3) := by decide +kernel
theorem d_I_commit_17 : decode prog_1_method_3_code 17 = .ok (.iload_n 1, 1) := by decide +kernel
theorem d_I_commit_18 : decode prog_1_method_3_code 18 = .ok (.aaload, 1) := by decide +kernel
theorem d_I_commit_19 : decode prog_1_method_3_code 19 = .ok (.getfield 57, 3) := by decide +kernel
theorem d_I_commit_22 : decode prog_1_method_3_code 22 = .ok (.if_icmp .le 5, 3) := by decide +kernel
theorem d_I_commit_25 : decode prog_1_method_3_code 25 = .ok (.iconst (-1), 1) := by decide +kernel
theorem d_I_commit_26 : decode prog_1_method_3_code 26 = .ok (.ireturn, 1) := by decide +kernel
theorem d_I_commit_27 : decode prog_1_method_3_code 27 = .ok (.aload_n 0, 1) := by decide +kernel
theorem d_I_commit_28 : decode prog_1_method_3_code 28 = .ok (.aload_n 0, 1) := by decide +kernel
theorem d_I_commit_29 : decode prog_1_method_3_code 29 = .ok (.getfield 39, 3) := by decide +kernel
theorem d_I_commit_32 : decode prog_1_method_3_code 32 = .ok (.iload_n 1, 1) := by decide +kernel
theorem d_I_commit_33 : decode prog_1_method_3_code 33 = .ok (.aaload, 1) := by decide +kernel
theorem d_I_commit_34 : decode prog_1_method_3_code 34 = .ok (.aload_n 0, 1) := by decide +kernel
theorem d_I_commit_35 : decode prog_1_method_3_code 35 = .ok (.getfield 39, 3) := by decide +kernel
theorem d_I_commit_38 : decode prog_1_method_3_code 38 = .ok (.iload_n 1, 1) := by decide +kernel
theorem d_I_commit_39 : decode prog_1_method_3_code 39 = .ok (.aaload, 1) := by decide +kernel
theorem d_I_commit_40 : decode prog_1_method_3_code 40 = .ok (.getfield 50, 3) := by decide +kernel
theorem d_I_commit_43 : decode prog_1_method_3_code 43 = .ok (.ineg, 1) := by decide +kernel
theorem d_I_commit_44 : decode prog_1_method_3_code 44 = .ok (.iload_n 2, 1) := by decide +kernel
theorem d_I_commit_45 : decode prog_1_method_3_code 45 = .ok (.invokevirtual 53, 3) := by decide +kernel
theorem d_I_commit_48 : decode prog_1_method_3_code 48 = .ok (.ireturn, 1) := by decide +kernel
theorem d_I_readable_0 : decode prog_1_method_4_code 0 = .ok (.aload_n 0, 1) := by decide +kernel
theorem d_I_readable_1 : decode prog_1_method_4_code 1 = .ok (.iload_n 1, 1) := by decide +kernel
theorem d_I_readable_2 : decode prog_1_method_4_code 2 = .ok (.invokevirtual 46, 3) := by decide +kernel
theorem d_I_readable_5 : decode prog_1_method_4_code 5 = .ok (.ifCond .eq 32, 3) := by decide +kernel
theorem d_I_readable_8 : decode prog_1_method_4_code 8 = .ok (.iload_n 2, 1) := by decide +kernel
theorem d_I_readable_9 : decode prog_1_method_4_code 9 = .ok (.aload_n 0, 1) := by decide +kernel
theorem d_I_readable_10 : decode prog_1_method_4_code 10 = .ok (.getfield 39, 3) := by decide +kernel
theorem d_I_readable_13 : decode prog_1_method_4_code 13 = .ok (.iload_n 1, 1) := by decide +kernel
theorem d_I_readable_14 : decode prog_1_method_4_code 14 = .ok (.aaload, 1) := by decide +kernel
theorem d_I_readable_15 : decode prog_1_method_4_code 15 = .ok (.getfield 57, 3) := by decide +kernel
theorem d_I_readable_18 : decode prog_1_method_4_code 18 = .ok (.if_icmp .ge 19, 3) := by decide +kernel
theorem d_I_readable_21 : decode prog_1_method_4_code 21 = .ok (.aload_n 0, 1) := by decide +kernel
theorem d_I_readable_22 : decode prog_1_method_4_code 22 = .ok (.getfield 39, 3) := by decide +kernel
theorem d_I_readable_25 : decode prog_1_method_4_code 25 = .ok (.iload_n 1, 1) := by decide +kernel
theorem d_I_readable_26 : decode prog_1_method_4_code 26 = .ok (.aaload, 1) := by decide +kernel
theorem d_I_readable_27 : decode prog_1_method_4_code 27 = .ok (.getfield 60, 3) := by decide +kernel
theorem d_I_readable_30 : decode prog_1_method_4_code 30 = .ok (.iload_n 2, 1) := by decide +kernel
theorem d_I_readable_31 : decode prog_1_method_4_code 31 = .ok (.invokevirtual 64, 3) := by decide +kernel
theorem d_I_readable_34 : decode prog_1_method_4_code 34 = .ok (.ifCond .ne 5, 3) := by decide +kernel
theorem d_I_readable_37 : decode prog_1_method_4_code 37 = .ok (.iconst 0, 1) := by decide +kernel
theorem d_I_readable_38 : decode prog_1_method_4_code 38 = .ok (.ireturn, 1) := by decide +kernel
theorem d_I_readable_39 : decode prog_1_method_4_code 39 = .ok (.aload_n 0, 1) := by decide +kernel
theorem d_I_readable_40 : decode prog_1_method_4_code 40 = .ok (.getfield 39, 3) := by decide +kernel
theorem d_I_readable_43 : decode prog_1_method_4_code 43 = .ok (.iload_n 1, 1) := by decide +kernel
theorem d_I_readable_44 : decode prog_1_method_4_code 44 = .ok (.aaload, 1) := by decide +kernel
theorem d_I_readable_45 : decode prog_1_method_4_code 45 = .ok (.getfield 60, 3) := by decide +kernel
theorem d_I_readable_48 : decode prog_1_method_4_code 48 = .ok (.iload_n 2, 1) := by decide +kernel
theorem d_I_readable_49 : decode prog_1_method_4_code 49 = .ok (.invokevirtual 69, 3) := by decide +kernel
theorem d_I_readable_52 : decode prog_1_method_4_code 52 = .ok (.ifCond .eq 7, 3) := by decide +kernel
theorem d_I_readable_55 : decode prog_1_method_4_code 55 = .ok (.iconst 2, 1) := by decide +kernel
theorem d_I_readable_56 : decode prog_1_method_4_code 56 = .ok (.goto 4, 3) := by decide +kernel
theorem d_I_readable_59 : decode prog_1_method_4_code 59 = .ok (.iconst 1, 1) := by decide +kernel
theorem d_I_readable_60 : decode prog_1_method_4_code 60 = .ok (.ireturn, 1) := by decide +kernel
theorem d_L_has_0 : decode prog_5_method_2_code 0 = .ok (.iload_n 1, 1) := by decide +kernel
theorem d_L_has_1 : decode prog_5_method_2_code 1 = .ok (.ifCond .lt 15, 3) := by decide +kernel
theorem d_L_has_4 : decode prog_5_method_2_code 4 = .ok (.iload_n 1, 1) := by decide +kernel
theorem d_L_has_5 : decode prog_5_method_2_code 5 = .ok (.aload_n 0, 1) := by decide +kernel
theorem d_L_has_6 : decode prog_5_method_2_code 6 = .ok (.getfield 18, 3) := by decide +kernel
theorem d_L_has_9 : decode prog_5_method_2_code 9 = .ok (.if_icmp .ge 7, 3) := by decide +kernel
theorem d_L_has_12 : decode prog_5_method_2_code 12 = .ok (.iconst 1, 1) := by decide +kernel
theorem d_L_has_13 : decode prog_5_method_2_code 13 = .ok (.goto 4, 3) := by decide +kernel
theorem d_L_has_16 : decode prog_5_method_2_code 16 = .ok (.iconst 0, 1) := by decide +kernel
theorem d_L_has_17 : decode prog_5_method_2_code 17 = .ok (.ireturn, 1) := by decide +kernel
theorem d_L_isMark_0 : decode prog_5_method_4_code 0 = .ok (.aload_n 0, 1) := by decide +kernel
theorem d_L_isMark_1 : decode prog_5_method_4_code 1 = .ok (.iload_n 1, 1) := by decide +kernel
theorem d_L_isMark_2 : decode prog_5_method_4_code 2 = .ok (.invokevirtual 22, 3) := by decide +kernel
theorem d_L_isMark_5 : decode prog_5_method_4_code 5 = .ok (.ifCond .ge 7, 3) := by decide +kernel
theorem d_L_isMark_8 : decode prog_5_method_4_code 8 = .ok (.iconst 1, 1) := by decide +kernel
theorem d_L_isMark_9 : decode prog_5_method_4_code 9 = .ok (.goto 4, 3) := by decide +kernel
theorem d_L_isMark_12 : decode prog_5_method_4_code 12 = .ok (.iconst 0, 1) := by decide +kernel
theorem d_L_isMark_13 : decode prog_5_method_4_code 13 = .ok (.ireturn, 1) := by decide +kernel
theorem d_L_stampOf_0 : decode prog_5_method_5_code 0 = .ok (.aload_n 0, 1) := by decide +kernel
theorem d_L_stampOf_1 : decode prog_5_method_5_code 1 = .ok (.iload_n 1, 1) := by decide +kernel
theorem d_L_stampOf_2 : decode prog_5_method_5_code 2 = .ok (.invokevirtual 26, 3) := by decide +kernel
theorem d_L_stampOf_5 : decode prog_5_method_5_code 5 = .ok (.ifCond .eq 12, 3) := by decide +kernel
theorem d_L_stampOf_8 : decode prog_5_method_5_code 8 = .ok (.aload_n 0, 1) := by decide +kernel
theorem d_L_stampOf_9 : decode prog_5_method_5_code 9 = .ok (.getfield 9, 3) := by decide +kernel
theorem d_L_stampOf_12 : decode prog_5_method_5_code 12 = .ok (.iload_n 1, 1) := by decide +kernel
theorem d_L_stampOf_13 : decode prog_5_method_5_code 13 = .ok (.iaload, 1) := by decide +kernel
theorem d_L_stampOf_14 : decode prog_5_method_5_code 14 = .ok (.goto 4, 3) := by decide +kernel
theorem d_L_stampOf_17 : decode prog_5_method_5_code 17 = .ok (.iconst 0, 1) := by decide +kernel
theorem d_L_stampOf_18 : decode prog_5_method_5_code 18 = .ok (.ireturn, 1) := by decide +kernel
theorem d_I_committed_0 : decode prog_1_method_5_code 0 = .ok (.aload_n 0, 1) := by decide +kernel
theorem d_I_committed_1 : decode prog_1_method_5_code 1 = .ok (.iload_n 1, 1) := by decide +kernel
theorem d_I_committed_2 : decode prog_1_method_5_code 2 = .ok (.invokevirtual 46, 3) := by decide +kernel
theorem d_I_committed_5 : decode prog_1_method_5_code 5 = .ok (.ifCond .ne 5, 3) := by decide +kernel
theorem d_I_committed_8 : decode prog_1_method_5_code 8 = .ok (.iconst (-1), 1) := by decide +kernel
theorem d_I_committed_9 : decode prog_1_method_5_code 9 = .ok (.ireturn, 1) := by decide +kernel
theorem d_I_committed_10 : decode prog_1_method_5_code 10 = .ok (.aload_n 0, 1) := by decide +kernel
theorem d_I_committed_11 : decode prog_1_method_5_code 11 = .ok (.getfield 39, 3) := by decide +kernel
theorem d_I_committed_14 : decode prog_1_method_5_code 14 = .ok (.iload_n 1, 1) := by decide +kernel
theorem d_I_committed_15 : decode prog_1_method_5_code 15 = .ok (.aaload, 1) := by decide +kernel
theorem d_I_committed_16 : decode prog_1_method_5_code 16 = .ok (.getfield 60, 3) := by decide +kernel
theorem d_I_committed_19 : decode prog_1_method_5_code 19 = .ok (.astore_n 2, 1) := by decide +kernel
theorem d_I_committed_20 : decode prog_1_method_5_code 20 = .ok (.aload_n 0, 1) := by decide +kernel
theorem d_I_committed_21 : decode prog_1_method_5_code 21 = .ok (.getfield 39, 3) := by decide +kernel
theorem d_I_committed_24 : decode prog_1_method_5_code 24 = .ok (.iload_n 1, 1) := by decide +kernel
theorem d_I_committed_25 : decode prog_1_method_5_code 25 = .ok (.aaload, 1) := by decide +kernel
theorem d_I_committed_26 : decode prog_1_method_5_code 26 = .ok (.getfield 57, 3) := by decide +kernel
theorem d_I_committed_29 : decode prog_1_method_5_code 29 = .ok (.iconst 1, 1) := by decide +kernel
theorem d_I_committed_30 : decode prog_1_method_5_code 30 = .ok (.isub, 1) := by decide +kernel
theorem d_I_committed_31 : decode prog_1_method_5_code 31 = .ok (.istore_n 3, 1) := by decide +kernel
theorem d_I_committed_32 : decode prog_1_method_5_code 32 = .ok (.iload_n 3, 1) := by decide +kernel
theorem d_I_committed_33 : decode prog_1_method_5_code 33 = .ok (.ifCond .lt 23, 3) := by decide +kernel
theorem d_I_committed_36 : decode prog_1_method_5_code 36 = .ok (.aload_n 2, 1) := by decide +kernel
theorem d_I_committed_37 : decode prog_1_method_5_code 37 = .ok (.iload_n 3, 1) := by decide +kernel
theorem d_I_committed_38 : decode prog_1_method_5_code 38 = .ok (.invokevirtual 69, 3) := by decide +kernel
theorem d_I_committed_41 : decode prog_1_method_5_code 41 = .ok (.ifCond .eq 9, 3) := by decide +kernel
theorem d_I_committed_44 : decode prog_1_method_5_code 44 = .ok (.aload_n 2, 1) := by decide +kernel
theorem d_I_committed_45 : decode prog_1_method_5_code 45 = .ok (.iload_n 3, 1) := by decide +kernel
theorem d_I_committed_46 : decode prog_1_method_5_code 46 = .ok (.invokevirtual 72, 3) := by decide +kernel
theorem d_I_committed_49 : decode prog_1_method_5_code 49 = .ok (.ireturn, 1) := by decide +kernel
theorem d_I_committed_50 : decode prog_1_method_5_code 50 = .ok (.iinc 3 (-1), 3) := by decide +kernel
theorem d_I_committed_53 : decode prog_1_method_5_code 53 = .ok (.goto (-21), 3) := by decide +kernel
theorem d_I_committed_56 : decode prog_1_method_5_code 56 = .ok (.iconst (-1), 1) := by decide +kernel
theorem d_I_committed_57 : decode prog_1_method_5_code 57 = .ok (.ireturn, 1) := by decide +kernel
theorem d_L_valueOf_0 : decode prog_5_method_7_code 0 = .ok (.aload_n 0, 1) := by decide +kernel
theorem d_L_valueOf_1 : decode prog_5_method_7_code 1 = .ok (.iload_n 1, 1) := by decide +kernel
theorem d_L_valueOf_2 : decode prog_5_method_7_code 2 = .ok (.invokevirtual 26, 3) := by decide +kernel
theorem d_L_valueOf_5 : decode prog_5_method_7_code 5 = .ok (.ifCond .eq 12, 3) := by decide +kernel
theorem d_L_valueOf_8 : decode prog_5_method_7_code 8 = .ok (.aload_n 0, 1) := by decide +kernel
theorem d_L_valueOf_9 : decode prog_5_method_7_code 9 = .ok (.getfield 15, 3) := by decide +kernel
theorem d_L_valueOf_12 : decode prog_5_method_7_code 12 = .ok (.iload_n 1, 1) := by decide +kernel
theorem d_L_valueOf_13 : decode prog_5_method_7_code 13 = .ok (.iaload, 1) := by decide +kernel
theorem d_L_valueOf_14 : decode prog_5_method_7_code 14 = .ok (.goto 4, 3) := by decide +kernel
theorem d_L_valueOf_17 : decode prog_5_method_7_code 17 = .ok (.iconst 0, 1) := by decide +kernel
theorem d_L_valueOf_18 : decode prog_5_method_7_code 18 = .ok (.ireturn, 1) := by decide +kernel
theorem d_I_fetch_0 : decode prog_1_method_6_code 0 = .ok (.aload_n 0, 1) := by decide +kernel
theorem d_I_fetch_1 : decode prog_1_method_6_code 1 = .ok (.iload_n 1, 1) := by decide +kernel
theorem d_I_fetch_2 : decode prog_1_method_6_code 2 = .ok (.invokevirtual 76, 3) := by decide +kernel
theorem d_I_fetch_5 : decode prog_1_method_6_code 5 = .ok (.ifCond .eq 28, 3) := by decide +kernel
theorem d_I_fetch_8 : decode prog_1_method_6_code 8 = .ok (.aload_n 0, 1) := by decide +kernel
theorem d_I_fetch_9 : decode prog_1_method_6_code 9 = .ok (.getfield 39, 3) := by decide +kernel
theorem d_I_fetch_12 : decode prog_1_method_6_code 12 = .ok (.iload_n 1, 1) := by decide +kernel
theorem d_I_fetch_13 : decode prog_1_method_6_code 13 = .ok (.aaload, 1) := by decide +kernel
theorem d_I_fetch_14 : decode prog_1_method_6_code 14 = .ok (.invokevirtual 79, 3) := by decide +kernel
theorem d_I_fetch_17 : decode prog_1_method_6_code 17 = .ok (.ifCond .ne 16, 3) := by decide +kernel
theorem d_I_fetch_20 : decode prog_1_method_6_code 20 = .ok (.aload_n 0, 1) := by decide +kernel
theorem d_I_fetch_21 : decode prog_1_method_6_code 21 = .ok (.getfield 39, 3) := by decide +kernel
theorem d_I_fetch_24 : decode prog_1_method_6_code 24 = .ok (.iload_n 1, 1) := by decide +kernel
theorem d_I_fetch_25 : decode prog_1_method_6_code 25 = .ok (.aaload, 1) := by decide +kernel
theorem d_I_fetch_26 : decode prog_1_method_6_code 26 = .ok (.getfield 83, 3) := by decide +kernel
theorem d_I_fetch_29 : decode prog_1_method_6_code 29 = .ok (.iconst (-1), 1) := by decide +kernel
theorem d_I_fetch_30 : decode prog_1_method_6_code 30 = .ok (.if_icmp .ne 5, 3) := by decide +kernel
theorem d_I_fetch_33 : decode prog_1_method_6_code 33 = .ok (.iconst 0, 1) := by decide +kernel
theorem d_I_fetch_34 : decode prog_1_method_6_code 34 = .ok (.ireturn, 1) := by decide +kernel
theorem d_I_fetch_35 : decode prog_1_method_6_code 35 = .ok (.aload_n 0, 1) := by decide +kernel
theorem d_I_fetch_36 : decode prog_1_method_6_code 36 = .ok (.getfield 39, 3) := by decide +kernel
theorem d_I_fetch_39 : decode prog_1_method_6_code 39 = .ok (.iload_n 1, 1) := by decide +kernel
theorem d_I_fetch_40 : decode prog_1_method_6_code 40 = .ok (.aaload, 1) := by decide +kernel
theorem d_I_fetch_41 : decode prog_1_method_6_code 41 = .ok (.astore_n 2, 1) := by decide +kernel
theorem d_I_fetch_42 : decode prog_1_method_6_code 42 = .ok (.aload_n 2, 1) := by decide +kernel
theorem d_I_fetch_43 : decode prog_1_method_6_code 43 = .ok (.dup, 1) := by decide +kernel
theorem d_I_fetch_44 : decode prog_1_method_6_code 44 = .ok (.getfield 86, 3) := by decide +kernel
theorem d_I_fetch_47 : decode prog_1_method_6_code 47 = .ok (.iconst 1, 1) := by decide +kernel
theorem d_I_fetch_48 : decode prog_1_method_6_code 48 = .ok (.iadd, 1) := by decide +kernel
theorem d_I_fetch_49 : decode prog_1_method_6_code 49 = .ok (.putfield 86, 3) := by decide +kernel
theorem d_I_fetch_52 : decode prog_1_method_6_code 52 = .ok (.aload_n 2, 1) := by decide +kernel
theorem d_I_fetch_53 : decode prog_1_method_6_code 53 = .ok (.iconst 1, 1) := by decide +kernel
theorem d_I_fetch_54 : decode prog_1_method_6_code 54 = .ok (.putfield 89, 3) := by decide +kernel
theorem d_I_fetch_57 : decode prog_1_method_6_code 57 = .ok (.aload_n 0, 1) := by decide +kernel
theorem d_I_fetch_58 : decode prog_1_method_6_code 58 = .ok (.getfield 33, 3) := by decide +kernel
theorem d_I_fetch_61 : decode prog_1_method_6_code 61 = .ok (.iconst 0, 1) := by decide +kernel
theorem d_I_fetch_62 : decode prog_1_method_6_code 62 = .ok (.aload_n 2, 1) := by decide +kernel
theorem d_I_fetch_63 : decode prog_1_method_6_code 63 = .ok (.aload_n 2, 1) := by decide +kernel
theorem d_I_fetch_64 : decode prog_1_method_6_code 64 = .ok (.getfield 83, 3) := by decide +kernel
theorem d_I_fetch_67 : decode prog_1_method_6_code 67 = .ok (.aload_n 2, 1) := by decide +kernel
theorem d_I_fetch_68 : decode prog_1_method_6_code 68 = .ok (.getfield 86, 3) := by decide +kernel
theorem d_I_fetch_71 : decode prog_1_method_6_code 71 = .ok (.aload_n 2, 1) := by decide +kernel
theorem d_I_fetch_72 : decode prog_1_method_6_code 72 = .ok (.getfield 60, 3) := by decide +kernel
theorem d_I_fetch_75 : decode prog_1_method_6_code 75 = .ok (.getfield 93, 3) := by decide +kernel
theorem d_I_fetch_78 : decode prog_1_method_6_code 78 = .ok (.aload_n 2, 1) := by decide +kernel
theorem d_I_fetch_79 : decode prog_1_method_6_code 79 = .ok (.getfield 60, 3) := by decide +kernel
theorem d_I_fetch_82 : decode prog_1_method_6_code 82 = .ok (.invokevirtual 96, 3) := by decide +kernel
theorem d_I_fetch_85 : decode prog_1_method_6_code 85 = .ok (.invokevirtual 100, 3) := by decide +kernel
theorem d_I_fetch_88 : decode prog_1_method_6_code 88 = .ok (.pop, 1) := by decide +kernel
theorem d_I_fetch_89 : decode prog_1_method_6_code 89 = .ok (.iconst 1, 1) := by decide +kernel
theorem d_I_fetch_90 : decode prog_1_method_6_code 90 = .ok (.ireturn, 1) := by decide +kernel
theorem d_I_isUp_0 : decode prog_1_method_25_code 0 = .ok (.iload_n 1, 1) := by decide +kernel
theorem d_I_isUp_1 : decode prog_1_method_25_code 1 = .ok (.invokestatic 159, 3) := by decide +kernel
theorem d_I_isUp_4 : decode prog_1_method_25_code 4 = .ok (.ifCond .eq 19, 3) := by decide +kernel
theorem d_I_isUp_7 : decode prog_1_method_25_code 7 = .ok (.aload_n 0, 1) := by decide +kernel
theorem d_I_isUp_8 : decode prog_1_method_25_code 8 = .ok (.getfield 39, 3) := by decide +kernel
theorem d_I_isUp_11 : decode prog_1_method_25_code 11 = .ok (.iload_n 1, 1) := by decide +kernel
theorem d_I_isUp_12 : decode prog_1_method_25_code 12 = .ok (.aaload, 1) := by decide +kernel
theorem d_I_isUp_13 : decode prog_1_method_25_code 13 = .ok (.getfield 162, 3) := by decide +kernel
theorem d_I_isUp_16 : decode prog_1_method_25_code 16 = .ok (.ifCond .eq 7, 3) := by decide +kernel
theorem d_I_isUp_19 : decode prog_1_method_25_code 19 = .ok (.iconst 1, 1) := by decide +kernel
theorem d_I_isUp_20 : decode prog_1_method_25_code 20 = .ok (.goto 4, 3) := by decide +kernel
theorem d_I_isUp_23 : decode prog_1_method_25_code 23 = .ok (.iconst 0, 1) := by decide +kernel
theorem d_I_isUp_24 : decode prog_1_method_25_code 24 = .ok (.ireturn, 1) := by decide +kernel
theorem d_L_lastEpoch_0 : decode prog_5_method_8_code 0 = .ok (.aload_n 0, 1) := by decide +kernel
theorem d_L_lastEpoch_1 : decode prog_5_method_8_code 1 = .ok (.aload_n 0, 1) := by decide +kernel
theorem d_L_lastEpoch_2 : decode prog_5_method_8_code 2 = .ok (.getfield 18, 3) := by decide +kernel
theorem d_L_lastEpoch_5 : decode prog_5_method_8_code 5 = .ok (.iconst 1, 1) := by decide +kernel
theorem d_L_lastEpoch_6 : decode prog_5_method_8_code 6 = .ok (.isub, 1) := by decide +kernel
theorem d_L_lastEpoch_7 : decode prog_5_method_8_code 7 = .ok (.invokevirtual 35, 3) := by decide +kernel
theorem d_L_lastEpoch_10 : decode prog_5_method_8_code 10 = .ok (.ireturn, 1) := by decide +kernel
theorem d_L_epochOf_0 : decode prog_5_method_6_code 0 = .ok (.aload_n 0, 1) := by decide +kernel
theorem d_L_epochOf_1 : decode prog_5_method_6_code 1 = .ok (.iload_n 1, 1) := by decide +kernel
theorem d_L_epochOf_2 : decode prog_5_method_6_code 2 = .ok (.invokevirtual 22, 3) := by decide +kernel
theorem d_L_epochOf_5 : decode prog_5_method_6_code 5 = .ok (.invokestatic 30, 3) := by decide +kernel
theorem d_L_epochOf_8 : decode prog_5_method_6_code 8 = .ok (.ireturn, 1) := by decide +kernel
theorem d_H_send_0 : decode prog_3_method_4_code 0 = .ok (.aload_n 0, 1) := by decide +kernel
theorem d_H_send_1 : decode prog_3_method_4_code 1 = .ok (.getfield 17, 3) := by decide +kernel
theorem d_H_send_4 : decode prog_3_method_4_code 4 = .ok (.bipush 8, 2) := by decide +kernel
theorem d_H_send_6 : decode prog_3_method_4_code 6 = .ok (.if_icmp .lt 5, 3) := by decide +kernel
theorem d_H_send_9 : decode prog_3_method_4_code 9 = .ok (.aconst_null, 1) := by decide +kernel
theorem d_H_send_10 : decode prog_3_method_4_code 10 = .ok (.areturn, 1) := by decide +kernel
theorem d_H_send_11 : decode prog_3_method_4_code 11 = .ok (.aload_n 0, 1) := by decide +kernel
theorem d_H_send_12 : decode prog_3_method_4_code 12 = .ok (.getfield 11, 3) := by decide +kernel
theorem d_H_send_15 : decode prog_3_method_4_code 15 = .ok (.aload_n 0, 1) := by decide +kernel
theorem d_H_send_16 : decode prog_3_method_4_code 16 = .ok (.getfield 17, 3) := by decide +kernel
theorem d_H_send_19 : decode prog_3_method_4_code 19 = .ok (.aaload, 1) := by decide +kernel
theorem d_H_send_20 : decode prog_3_method_4_code 20 = .ok (.astore 7, 2) := by decide +kernel
theorem d_H_send_22 : decode prog_3_method_4_code 22 = .ok (.aload_n 0, 1) := by decide +kernel
theorem d_H_send_23 : decode prog_3_method_4_code 23 = .ok (.dup, 1) := by decide +kernel
theorem d_H_send_24 : decode prog_3_method_4_code 24 = .ok (.getfield 17, 3) := by decide +kernel
theorem d_H_send_27 : decode prog_3_method_4_code 27 = .ok (.iconst 1, 1) := by decide +kernel
theorem d_H_send_28 : decode prog_3_method_4_code 28 = .ok (.iadd, 1) := by decide +kernel
theorem d_H_send_29 : decode prog_3_method_4_code 29 = .ok (.putfield 17, 3) := by decide +kernel
theorem d_H_send_32 : decode prog_3_method_4_code 32 = .ok (.aload 7, 2) := by decide +kernel
theorem d_H_send_34 : decode prog_3_method_4_code 34 = .ok (.iload_n 1, 1) := by decide +kernel
theorem d_H_send_35 : decode prog_3_method_4_code 35 = .ok (.putfield 26, 3) := by decide +kernel
theorem d_H_send_38 : decode prog_3_method_4_code 38 = .ok (.aload 7, 2) := by decide +kernel
theorem d_H_send_40 : decode prog_3_method_4_code 40 = .ok (.aload_n 2, 1) := by decide +kernel
theorem d_H_send_41 : decode prog_3_method_4_code 41 = .ok (.getfield 29, 3) := by decide +kernel
theorem d_H_send_44 : decode prog_3_method_4_code 44 = .ok (.putfield 34, 3) := by decide +kernel
theorem d_H_send_47 : decode prog_3_method_4_code 47 = .ok (.aload 7, 2) := by decide +kernel
theorem d_H_send_49 : decode prog_3_method_4_code 49 = .ok (.iload_n 3, 1) := by decide +kernel
theorem d_H_send_50 : decode prog_3_method_4_code 50 = .ok (.putfield 37, 3) := by decide +kernel
theorem d_H_send_53 : decode prog_3_method_4_code 53 = .ok (.aload 7, 2) := by decide +kernel
theorem d_H_send_55 : decode prog_3_method_4_code 55 = .ok (.aload_n 2, 1) := by decide +kernel
theorem d_H_send_56 : decode prog_3_method_4_code 56 = .ok (.getfield 40, 3) := by decide +kernel
theorem d_H_send_59 : decode prog_3_method_4_code 59 = .ok (.putfield 43, 3) := by decide +kernel
theorem d_H_send_62 : decode prog_3_method_4_code 62 = .ok (.aload 7, 2) := by decide +kernel
theorem d_H_send_64 : decode prog_3_method_4_code 64 = .ok (.iload 4, 2) := by decide +kernel
theorem d_H_send_66 : decode prog_3_method_4_code 66 = .ok (.putfield 44, 3) := by decide +kernel
theorem d_H_send_69 : decode prog_3_method_4_code 69 = .ok (.aload 7, 2) := by decide +kernel
theorem d_H_send_71 : decode prog_3_method_4_code 71 = .ok (.iload 5, 2) := by decide +kernel
theorem d_H_send_73 : decode prog_3_method_4_code 73 = .ok (.putfield 47, 3) := by decide +kernel
theorem d_H_send_76 : decode prog_3_method_4_code 76 = .ok (.aload 7, 2) := by decide +kernel
theorem d_H_send_78 : decode prog_3_method_4_code 78 = .ok (.iload 6, 2) := by decide +kernel
theorem d_H_send_80 : decode prog_3_method_4_code 80 = .ok (.putfield 50, 3) := by decide +kernel
theorem d_H_send_83 : decode prog_3_method_4_code 83 = .ok (.aload 7, 2) := by decide +kernel
theorem d_H_send_85 : decode prog_3_method_4_code 85 = .ok (.areturn, 1) := by decide +kernel
theorem d_I_deliver_0 : decode prog_1_method_7_code 0 = .ok (.aload_n 0, 1) := by decide +kernel
theorem d_I_deliver_1 : decode prog_1_method_7_code 1 = .ok (.getfield 33, 3) := by decide +kernel
theorem d_I_deliver_4 : decode prog_1_method_7_code 4 = .ok (.iload_n 1, 1) := by decide +kernel
theorem d_I_deliver_5 : decode prog_1_method_7_code 5 = .ok (.invokevirtual 104, 3) := by decide +kernel
theorem d_I_deliver_8 : decode prog_1_method_7_code 8 = .ok (.astore_n 2, 1) := by decide +kernel
theorem d_I_deliver_9 : decode prog_1_method_7_code 9 = .ok (.aload_n 2, 1) := by decide +kernel
theorem d_I_deliver_10 : decode prog_1_method_7_code 10 = .ok (.ifnonnull 5, 3) := by decide +kernel
theorem d_I_deliver_13 : decode prog_1_method_7_code 13 = .ok (.iconst 0, 1) := by decide +kernel
theorem d_I_deliver_14 : decode prog_1_method_7_code 14 = .ok (.ireturn, 1) := by decide +kernel
theorem d_I_deliver_15 : decode prog_1_method_7_code 15 = .ok (.aload_n 0, 1) := by decide +kernel
theorem d_I_deliver_16 : decode prog_1_method_7_code 16 = .ok (.getfield 39, 3) := by decide +kernel
theorem d_I_deliver_19 : decode prog_1_method_7_code 19 = .ok (.aload_n 2, 1) := by decide +kernel
theorem d_I_deliver_20 : decode prog_1_method_7_code 20 = .ok (.getfield 108, 3) := by decide +kernel
theorem d_I_deliver_23 : decode prog_1_method_7_code 23 = .ok (.aaload, 1) := by decide +kernel
theorem d_I_deliver_24 : decode prog_1_method_7_code 24 = .ok (.astore_n 3, 1) := by decide +kernel
theorem d_I_deliver_25 : decode prog_1_method_7_code 25 = .ok (.aload_n 2, 1) := by decide +kernel
theorem d_I_deliver_26 : decode prog_1_method_7_code 26 = .ok (.getfield 113, 3) := by decide +kernel
theorem d_I_deliver_29 : decode prog_1_method_7_code 29 = .ok (.ifCond .ne 12, 3) := by decide +kernel
theorem d_I_deliver_32 : decode prog_1_method_7_code 32 = .ok (.aload_n 0, 1) := by decide +kernel
theorem d_I_deliver_33 : decode prog_1_method_7_code 33 = .ok (.aload_n 3, 1) := by decide +kernel
theorem d_I_deliver_34 : decode prog_1_method_7_code 34 = .ok (.aload_n 2, 1) := by decide +kernel
theorem d_I_deliver_35 : decode prog_1_method_7_code 35 = .ok (.invokevirtual 116, 3) := by decide +kernel
theorem d_I_deliver_38 : decode prog_1_method_7_code 38 = .ok (.goto 8, 3) := by decide +kernel
theorem d_I_deliver_41 : decode prog_1_method_7_code 41 = .ok (.aload_n 3, 1) := by decide +kernel
theorem d_I_deliver_42 : decode prog_1_method_7_code 42 = .ok (.aload_n 2, 1) := by decide +kernel
theorem d_I_deliver_43 : decode prog_1_method_7_code 43 = .ok (.invokevirtual 120, 3) := by decide +kernel
theorem d_I_deliver_46 : decode prog_1_method_7_code 46 = .ok (.iconst 1, 1) := by decide +kernel
theorem d_I_deliver_47 : decode prog_1_method_7_code 47 = .ok (.ireturn, 1) := by decide +kernel
theorem d_H_take_0 : decode prog_3_method_3_code 0 = .ok (.aload_n 0, 1) := by decide +kernel
theorem d_H_take_1 : decode prog_3_method_3_code 1 = .ok (.iload_n 1, 1) := by decide +kernel
theorem d_H_take_2 : decode prog_3_method_3_code 2 = .ok (.invokevirtual 22, 3) := by decide +kernel
theorem d_H_take_5 : decode prog_3_method_3_code 5 = .ok (.ifCond .ne 5, 3) := by decide +kernel
theorem d_H_take_8 : decode prog_3_method_3_code 8 = .ok (.aconst_null, 1) := by decide +kernel
theorem d_H_take_9 : decode prog_3_method_3_code 9 = .ok (.areturn, 1) := by decide +kernel
theorem d_H_take_10 : decode prog_3_method_3_code 10 = .ok (.aload_n 0, 1) := by decide +kernel
theorem d_H_take_11 : decode prog_3_method_3_code 11 = .ok (.getfield 11, 3) := by decide +kernel
theorem d_H_take_14 : decode prog_3_method_3_code 14 = .ok (.iload_n 1, 1) := by decide +kernel
theorem d_H_take_15 : decode prog_3_method_3_code 15 = .ok (.aaload, 1) := by decide +kernel
theorem d_H_take_16 : decode prog_3_method_3_code 16 = .ok (.astore_n 2, 1) := by decide +kernel
theorem d_H_take_17 : decode prog_3_method_3_code 17 = .ok (.iload_n 1, 1) := by decide +kernel
theorem d_H_take_18 : decode prog_3_method_3_code 18 = .ok (.istore_n 3, 1) := by decide +kernel
theorem d_H_take_19 : decode prog_3_method_3_code 19 = .ok (.iload_n 3, 1) := by decide +kernel
theorem d_H_take_20 : decode prog_3_method_3_code 20 = .ok (.bipush 8, 2) := by decide +kernel
theorem d_H_take_22 : decode prog_3_method_3_code 22 = .ok (.if_icmp .ge 23, 3) := by decide +kernel
theorem d_H_take_25 : decode prog_3_method_3_code 25 = .ok (.aload_n 0, 1) := by decide +kernel
theorem d_H_take_26 : decode prog_3_method_3_code 26 = .ok (.getfield 11, 3) := by decide +kernel
theorem d_H_take_29 : decode prog_3_method_3_code 29 = .ok (.iload_n 3, 1) := by decide +kernel
theorem d_H_take_30 : decode prog_3_method_3_code 30 = .ok (.aload_n 0, 1) := by decide +kernel
theorem d_H_take_31 : decode prog_3_method_3_code 31 = .ok (.getfield 11, 3) := by decide +kernel
theorem d_H_take_34 : decode prog_3_method_3_code 34 = .ok (.iload_n 3, 1) := by decide +kernel
theorem d_H_take_35 : decode prog_3_method_3_code 35 = .ok (.iconst 1, 1) := by decide +kernel
theorem d_H_take_36 : decode prog_3_method_3_code 36 = .ok (.iadd, 1) := by decide +kernel
theorem d_H_take_37 : decode prog_3_method_3_code 37 = .ok (.aaload, 1) := by decide +kernel
theorem d_H_take_38 : decode prog_3_method_3_code 38 = .ok (.aastore, 1) := by decide +kernel
theorem d_H_take_39 : decode prog_3_method_3_code 39 = .ok (.iinc 3 1, 3) := by decide +kernel
theorem d_H_take_42 : decode prog_3_method_3_code 42 = .ok (.goto (-23), 3) := by decide +kernel
theorem d_H_take_45 : decode prog_3_method_3_code 45 = .ok (.aload_n 0, 1) := by decide +kernel
theorem d_H_take_46 : decode prog_3_method_3_code 46 = .ok (.getfield 11, 3) := by decide +kernel
theorem d_H_take_49 : decode prog_3_method_3_code 49 = .ok (.bipush 8, 2) := by decide +kernel
theorem d_H_take_51 : decode prog_3_method_3_code 51 = .ok (.aload_n 2, 1) := by decide +kernel
theorem d_H_take_52 : decode prog_3_method_3_code 52 = .ok (.aastore, 1) := by decide +kernel
theorem d_H_take_53 : decode prog_3_method_3_code 53 = .ok (.aload_n 0, 1) := by decide +kernel
theorem d_H_take_54 : decode prog_3_method_3_code 54 = .ok (.dup, 1) := by decide +kernel
theorem d_H_take_55 : decode prog_3_method_3_code 55 = .ok (.getfield 17, 3) := by decide +kernel
theorem d_H_take_58 : decode prog_3_method_3_code 58 = .ok (.iconst 1, 1) := by decide +kernel
theorem d_H_take_59 : decode prog_3_method_3_code 59 = .ok (.isub, 1) := by decide +kernel
theorem d_H_take_60 : decode prog_3_method_3_code 60 = .ok (.putfield 17, 3) := by decide +kernel
theorem d_H_take_63 : decode prog_3_method_3_code 63 = .ok (.aload_n 2, 1) := by decide +kernel
theorem d_H_take_64 : decode prog_3_method_3_code 64 = .ok (.areturn, 1) := by decide +kernel
theorem d_H_has_0 : decode prog_3_method_2_code 0 = .ok (.iload_n 1, 1) := by decide +kernel
theorem d_H_has_1 : decode prog_3_method_2_code 1 = .ok (.ifCond .lt 15, 3) := by decide +kernel
theorem d_H_has_4 : decode prog_3_method_2_code 4 = .ok (.iload_n 1, 1) := by decide +kernel
theorem d_H_has_5 : decode prog_3_method_2_code 5 = .ok (.aload_n 0, 1) := by decide +kernel
theorem d_H_has_6 : decode prog_3_method_2_code 6 = .ok (.getfield 17, 3) := by decide +kernel
theorem d_H_has_9 : decode prog_3_method_2_code 9 = .ok (.if_icmp .ge 7, 3) := by decide +kernel
theorem d_H_has_12 : decode prog_3_method_2_code 12 = .ok (.iconst 1, 1) := by decide +kernel
theorem d_H_has_13 : decode prog_3_method_2_code 13 = .ok (.goto 4, 3) := by decide +kernel
theorem d_H_has_16 : decode prog_3_method_2_code 16 = .ok (.iconst 0, 1) := by decide +kernel
theorem d_H_has_17 : decode prog_3_method_2_code 17 = .ok (.ireturn, 1) := by decide +kernel
theorem d_I_answer_0 : decode prog_1_method_28_code 0 = .ok (.aload_n 1, 1) := by decide +kernel
theorem d_I_answer_1 : decode prog_1_method_28_code 1 = .ok (.invokevirtual 79, 3) := by decide +kernel
theorem d_I_answer_4 : decode prog_1_method_28_code 4 = .ok (.ifCond .eq 14, 3) := by decide +kernel
theorem d_I_answer_7 : decode prog_1_method_28_code 7 = .ok (.aload_n 1, 1) := by decide +kernel
theorem d_I_answer_8 : decode prog_1_method_28_code 8 = .ok (.getfield 50, 3) := by decide +kernel
theorem d_I_answer_11 : decode prog_1_method_28_code 11 = .ok (.aload_n 2, 1) := by decide +kernel
theorem d_I_answer_12 : decode prog_1_method_28_code 12 = .ok (.getfield 199, 3) := by decide +kernel
theorem d_I_answer_15 : decode prog_1_method_28_code 15 = .ok (.if_icmp .eq 4, 3) := by decide +kernel
theorem d_I_answer_18 : decode prog_1_method_28_code 18 = .ok (.return_, 1) := by decide +kernel
theorem d_I_answer_19 : decode prog_1_method_28_code 19 = .ok (.aload_n 1, 1) := by decide +kernel
theorem d_I_answer_20 : decode prog_1_method_28_code 20 = .ok (.getfield 60, 3) := by decide +kernel
theorem d_I_answer_23 : decode prog_1_method_28_code 23 = .ok (.aload_n 2, 1) := by decide +kernel
theorem d_I_answer_24 : decode prog_1_method_28_code 24 = .ok (.getfield 200, 3) := by decide +kernel
theorem d_I_answer_27 : decode prog_1_method_28_code 27 = .ok (.aload_n 2, 1) := by decide +kernel
theorem d_I_answer_28 : decode prog_1_method_28_code 28 = .ok (.getfield 203, 3) := by decide +kernel
theorem d_I_answer_31 : decode prog_1_method_28_code 31 = .ok (.invokevirtual 206, 3) := by decide +kernel
theorem d_I_answer_34 : decode prog_1_method_28_code 34 = .ok (.ifCond .eq 28, 3) := by decide +kernel
theorem d_I_answer_37 : decode prog_1_method_28_code 37 = .ok (.aload_n 1, 1) := by decide +kernel
theorem d_I_answer_38 : decode prog_1_method_28_code 38 = .ok (.aload_n 2, 1) := by decide +kernel
theorem d_I_answer_39 : decode prog_1_method_28_code 39 = .ok (.getfield 209, 3) := by decide +kernel
theorem d_I_answer_42 : decode prog_1_method_28_code 42 = .ok (.aload_n 2, 1) := by decide +kernel
theorem d_I_answer_43 : decode prog_1_method_28_code 43 = .ok (.getfield 200, 3) := by decide +kernel
theorem d_I_answer_46 : decode prog_1_method_28_code 46 = .ok (.aload_n 0, 1) := by decide +kernel
theorem d_I_answer_47 : decode prog_1_method_28_code 47 = .ok (.getfield 136, 3) := by decide +kernel
theorem d_I_answer_50 : decode prog_1_method_28_code 50 = .ok (.invokevirtual 212, 3) := by decide +kernel
theorem d_I_answer_53 : decode prog_1_method_28_code 53 = .ok (.aload_n 0, 1) := by decide +kernel
theorem d_I_answer_54 : decode prog_1_method_28_code 54 = .ok (.aload_n 1, 1) := by decide +kernel
theorem d_I_answer_55 : decode prog_1_method_28_code 55 = .ok (.aload_n 2, 1) := by decide +kernel
theorem d_I_answer_56 : decode prog_1_method_28_code 56 = .ok (.invokevirtual 216, 3) := by decide +kernel
theorem d_I_answer_59 : decode prog_1_method_28_code 59 = .ok (.goto 9, 3) := by decide +kernel
theorem d_I_answer_62 : decode prog_1_method_28_code 62 = .ok (.aload_n 0, 1) := by decide +kernel
theorem d_I_answer_63 : decode prog_1_method_28_code 63 = .ok (.aload_n 1, 1) := by decide +kernel
theorem d_I_answer_64 : decode prog_1_method_28_code 64 = .ok (.aload_n 2, 1) := by decide +kernel
theorem d_I_answer_65 : decode prog_1_method_28_code 65 = .ok (.invokevirtual 219, 3) := by decide +kernel
theorem d_I_answer_68 : decode prog_1_method_28_code 68 = .ok (.return_, 1) := by decide +kernel
theorem d_L_continues_0 : decode prog_5_method_11_code 0 = .ok (.iload_n 1, 1) := by decide +kernel
theorem d_L_continues_1 : decode prog_5_method_11_code 1 = .ok (.ifCond .eq 22, 3) := by decide +kernel
theorem d_L_continues_4 : decode prog_5_method_11_code 4 = .ok (.iload_n 1, 1) := by decide +kernel
theorem d_L_continues_5 : decode prog_5_method_11_code 5 = .ok (.aload_n 0, 1) := by decide +kernel
theorem d_L_continues_6 : decode prog_5_method_11_code 6 = .ok (.getfield 18, 3) := by decide +kernel
theorem d_L_continues_9 : decode prog_5_method_11_code 9 = .ok (.if_icmp .gt 18, 3) := by decide +kernel
theorem d_L_continues_12 : decode prog_5_method_11_code 12 = .ok (.aload_n 0, 1) := by decide +kernel
theorem d_L_continues_13 : decode prog_5_method_11_code 13 = .ok (.iload_n 1, 1) := by decide +kernel
theorem d_L_continues_14 : decode prog_5_method_11_code 14 = .ok (.iconst 1, 1) := by decide +kernel
theorem d_L_continues_15 : decode prog_5_method_11_code 15 = .ok (.isub, 1) := by decide +kernel
theorem d_L_continues_16 : decode prog_5_method_11_code 16 = .ok (.invokevirtual 35, 3) := by decide +kernel
theorem d_L_continues_19 : decode prog_5_method_11_code 19 = .ok (.iload_n 2, 1) := by decide +kernel
theorem d_L_continues_20 : decode prog_5_method_11_code 20 = .ok (.if_icmp .ne 7, 3) := by decide +kernel
theorem d_L_continues_23 : decode prog_5_method_11_code 23 = .ok (.iconst 1, 1) := by decide +kernel
theorem d_L_continues_24 : decode prog_5_method_11_code 24 = .ok (.goto 4, 3) := by decide +kernel
theorem d_L_continues_27 : decode prog_5_method_11_code 27 = .ok (.iconst 0, 1) := by decide +kernel
theorem d_L_continues_28 : decode prog_5_method_11_code 28 = .ok (.ireturn, 1) := by decide +kernel
theorem d_B_noteFetched_0 : decode prog_2_method_6_code 0 = .ok (.aload_n 0, 1) := by decide +kernel
theorem d_B_noteFetched_1 : decode prog_2_method_6_code 1 = .ok (.getfield 18, 3) := by decide +kernel
theorem d_B_noteFetched_4 : decode prog_2_method_6_code 4 = .ok (.iload_n 1, 1) := by decide +kernel
theorem d_B_noteFetched_5 : decode prog_2_method_6_code 5 = .ok (.aload_n 0, 1) := by decide +kernel
theorem d_B_noteFetched_6 : decode prog_2_method_6_code 6 = .ok (.getfield 18, 3) := by decide +kernel
theorem d_B_noteFetched_9 : decode prog_2_method_6_code 9 = .ok (.iload_n 1, 1) := by decide +kernel
theorem d_B_noteFetched_10 : decode prog_2_method_6_code 10 = .ok (.iaload, 1) := by decide +kernel
theorem d_B_noteFetched_11 : decode prog_2_method_6_code 11 = .ok (.iload_n 2, 1) := by decide +kernel
theorem d_B_noteFetched_12 : decode prog_2_method_6_code 12 = .ok (.invokestatic 74, 3) := by decide +kernel
theorem d_B_noteFetched_15 : decode prog_2_method_6_code 15 = .ok (.iastore, 1) := by decide +kernel
theorem d_B_noteFetched_16 : decode prog_2_method_6_code 16 = .ok (.iload_n 2, 1) := by decide +kernel
theorem d_B_noteFetched_17 : decode prog_2_method_6_code 17 = .ok (.aload_n 0, 1) := by decide +kernel
theorem d_B_noteFetched_18 : decode prog_2_method_6_code 18 = .ok (.getfield 12, 3) := by decide +kernel
theorem d_B_noteFetched_21 : decode prog_2_method_6_code 21 = .ok (.getfield 64, 3) := by decide +kernel
theorem d_B_noteFetched_24 : decode prog_2_method_6_code 24 = .ok (.if_icmp .ne 10, 3) := by decide +kernel
theorem d_B_noteFetched_27 : decode prog_2_method_6_code 27 = .ok (.aload_n 0, 1) := by decide +kernel
theorem d_B_noteFetched_28 : decode prog_2_method_6_code 28 = .ok (.getfield 22, 3) := by decide +kernel
theorem d_B_noteFetched_31 : decode prog_2_method_6_code 31 = .ok (.iload_n 1, 1) := by decide +kernel
theorem d_B_noteFetched_32 : decode prog_2_method_6_code 32 = .ok (.iload_n 3, 1) := by decide +kernel
theorem d_B_noteFetched_33 : decode prog_2_method_6_code 33 = .ok (.iastore, 1) := by decide +kernel
theorem d_B_noteFetched_34 : decode prog_2_method_6_code 34 = .ok (.aload_n 0, 1) := by decide +kernel
theorem d_B_noteFetched_35 : decode prog_2_method_6_code 35 = .ok (.invokevirtual 80, 3) := by decide +kernel
theorem d_B_noteFetched_38 : decode prog_2_method_6_code 38 = .ok (.return_, 1) := by decide +kernel
theorem d_I_sendBatch_0 : decode prog_1_method_30_code 0 = .ok (.aload_n 0, 1) := by decide +kernel
theorem d_I_sendBatch_1 : decode prog_1_method_30_code 1 = .ok (.getfield 17, 3) := by decide +kernel
theorem d_I_sendBatch_4 : decode prog_1_method_30_code 4 = .ok (.aload_n 1, 1) := by decide +kernel
theorem d_I_sendBatch_5 : decode prog_1_method_30_code 5 = .ok (.getfield 60, 3) := by decide +kernel
theorem d_I_sendBatch_8 : decode prog_1_method_30_code 8 = .ok (.getfield 93, 3) := by decide +kernel
theorem d_I_sendBatch_11 : decode prog_1_method_30_code 11 = .ok (.aload_n 2, 1) := by decide +kernel
theorem d_I_sendBatch_12 : decode prog_1_method_30_code 12 = .ok (.getfield 200, 3) := by decide +kernel
theorem d_I_sendBatch_15 : decode prog_1_method_30_code 15 = .ok (.isub, 1) := by decide +kernel
theorem d_I_sendBatch_16 : decode prog_1_method_30_code 16 = .ok (.invokestatic 179, 3) := by decide +kernel
theorem d_I_sendBatch_19 : decode prog_1_method_30_code 19 = .ok (.istore_n 3, 1) := by decide +kernel
theorem d_I_sendBatch_20 : decode prog_1_method_30_code 20 = .ok (.aload_n 0, 1) := by decide +kernel
theorem d_I_sendBatch_21 : decode prog_1_method_30_code 21 = .ok (.getfield 33, 3) := by decide +kernel
theorem d_I_sendBatch_24 : decode prog_1_method_30_code 24 = .ok (.iconst 2, 1) := by decide +kernel
theorem d_I_sendBatch_25 : decode prog_1_method_30_code 25 = .ok (.aload_n 1, 1) := by decide +kernel
theorem d_I_sendBatch_26 : decode prog_1_method_30_code 26 = .ok (.aload_n 2, 1) := by decide +kernel
theorem d_I_sendBatch_27 : decode prog_1_method_30_code 27 = .ok (.getfield 209, 3) := by decide +kernel
theorem d_I_sendBatch_30 : decode prog_1_method_30_code 30 = .ok (.aload_n 2, 1) := by decide +kernel
theorem d_I_sendBatch_31 : decode prog_1_method_30_code 31 = .ok (.getfield 225, 3) := by decide +kernel
theorem d_I_sendBatch_34 : decode prog_1_method_30_code 34 = .ok (.iload_n 3, 1) := by decide +kernel
theorem d_I_sendBatch_35 : decode prog_1_method_30_code 35 = .ok (.aload_n 1, 1) := by decide +kernel
theorem d_I_sendBatch_36 : decode prog_1_method_30_code 36 = .ok (.getfield 57, 3) := by decide +kernel
theorem d_I_sendBatch_39 : decode prog_1_method_30_code 39 = .ok (.invokevirtual 100, 3) := by decide +kernel
theorem d_I_sendBatch_42 : decode prog_1_method_30_code 42 = .ok (.astore 4, 2) := by decide +kernel
theorem d_I_sendBatch_44 : decode prog_1_method_30_code 44 = .ok (.aload 4, 2) := by decide +kernel
theorem d_I_sendBatch_46 : decode prog_1_method_30_code 46 = .ok (.ifnull 16, 3) := by decide +kernel
theorem d_I_sendBatch_49 : decode prog_1_method_30_code 49 = .ok (.aload 4, 2) := by decide +kernel
theorem d_I_sendBatch_51 : decode prog_1_method_30_code 51 = .ok (.aload_n 1, 1) := by decide +kernel
theorem d_I_sendBatch_52 : decode prog_1_method_30_code 52 = .ok (.getfield 60, 3) := by decide +kernel
theorem d_I_sendBatch_55 : decode prog_1_method_30_code 55 = .ok (.aload_n 2, 1) := by decide +kernel
theorem d_I_sendBatch_56 : decode prog_1_method_30_code 56 = .ok (.getfield 200, 3) := by decide +kernel
theorem d_I_sendBatch_59 : decode prog_1_method_30_code 59 = .ok (.invokevirtual 231, 3) := by decide +kernel
theorem d_I_sendBatch_62 : decode prog_1_method_30_code 62 = .ok (.return_, 1) := by decide +kernel
theorem d_G_copyRecords_0 : decode prog_6_method_3_code 0 = .ok (.iconst 0, 1) := by decide +kernel
theorem d_G_copyRecords_1 : decode prog_6_method_3_code 1 = .ok (.istore_n 3, 1) := by decide +kernel
theorem d_G_copyRecords_2 : decode prog_6_method_3_code 2 = .ok (.iload_n 3, 1) := by decide +kernel
theorem d_G_copyRecords_3 : decode prog_6_method_3_code 3 = .ok (.aload_n 0, 1) := by decide +kernel
theorem d_G_copyRecords_4 : decode prog_6_method_3_code 4 = .ok (.getfield 34, 3) := by decide +kernel
theorem d_G_copyRecords_7 : decode prog_6_method_3_code 7 = .ok (.if_icmp .ge 40, 3) := by decide +kernel
theorem d_G_copyRecords_10 : decode prog_6_method_3_code 10 = .ok (.iload_n 3, 1) := by decide +kernel
theorem d_G_copyRecords_11 : decode prog_6_method_3_code 11 = .ok (.iconst 3, 1) := by decide +kernel
theorem d_G_copyRecords_12 : decode prog_6_method_3_code 12 = .ok (.if_icmp .ge 35, 3) := by decide +kernel
theorem d_G_copyRecords_15 : decode prog_6_method_3_code 15 = .ok (.aload_n 0, 1) := by decide +kernel
theorem d_G_copyRecords_16 : decode prog_6_method_3_code 16 = .ok (.getfield 9, 3) := by decide +kernel
theorem d_G_copyRecords_19 : decode prog_6_method_3_code 19 = .ok (.iload_n 3, 1) := by decide +kernel
theorem d_G_copyRecords_20 : decode prog_6_method_3_code 20 = .ok (.aload_n 1, 1) := by decide +kernel
theorem d_G_copyRecords_21 : decode prog_6_method_3_code 21 = .ok (.iload_n 2, 1) := by decide +kernel
theorem d_G_copyRecords_22 : decode prog_6_method_3_code 22 = .ok (.iload_n 3, 1) := by decide +kernel
theorem d_G_copyRecords_23 : decode prog_6_method_3_code 23 = .ok (.iadd, 1) := by decide +kernel
theorem d_G_copyRecords_24 : decode prog_6_method_3_code 24 = .ok (.invokevirtual 40, 3) := by decide +kernel
theorem d_G_copyRecords_27 : decode prog_6_method_3_code 27 = .ok (.iastore, 1) := by decide +kernel
theorem d_G_copyRecords_28 : decode prog_6_method_3_code 28 = .ok (.aload_n 0, 1) := by decide +kernel
theorem d_G_copyRecords_29 : decode prog_6_method_3_code 29 = .ok (.getfield 15, 3) := by decide +kernel
theorem d_G_copyRecords_32 : decode prog_6_method_3_code 32 = .ok (.iload_n 3, 1) := by decide +kernel
theorem d_G_copyRecords_33 : decode prog_6_method_3_code 33 = .ok (.aload_n 1, 1) := by decide +kernel
theorem d_G_copyRecords_34 : decode prog_6_method_3_code 34 = .ok (.iload_n 2, 1) := by decide +kernel
theorem d_G_copyRecords_35 : decode prog_6_method_3_code 35 = .ok (.iload_n 3, 1) := by decide +kernel
theorem d_G_copyRecords_36 : decode prog_6_method_3_code 36 = .ok (.iadd, 1) := by decide +kernel
theorem d_G_copyRecords_37 : decode prog_6_method_3_code 37 = .ok (.invokevirtual 46, 3) := by decide +kernel
theorem d_G_copyRecords_40 : decode prog_6_method_3_code 40 = .ok (.iastore, 1) := by decide +kernel
theorem d_G_copyRecords_41 : decode prog_6_method_3_code 41 = .ok (.iinc 3 1, 3) := by decide +kernel
theorem d_G_copyRecords_44 : decode prog_6_method_3_code 44 = .ok (.goto (-42), 3) := by decide +kernel
theorem d_G_copyRecords_47 : decode prog_6_method_3_code 47 = .ok (.return_, 1) := by decide +kernel
theorem d_I_sendCut_0 : decode prog_1_method_29_code 0 = .ok (.aload_n 1, 1) := by decide +kernel
theorem d_I_sendCut_1 : decode prog_1_method_29_code 1 = .ok (.getfield 60, 3) := by decide +kernel
theorem d_I_sendCut_4 : decode prog_1_method_29_code 4 = .ok (.aload_n 2, 1) := by decide +kernel
theorem d_I_sendCut_5 : decode prog_1_method_29_code 5 = .ok (.getfield 203, 3) := by decide +kernel
theorem d_I_sendCut_8 : decode prog_1_method_29_code 8 = .ok (.invokevirtual 222, 3) := by decide +kernel
theorem d_I_sendCut_11 : decode prog_1_method_29_code 11 = .ok (.istore_n 3, 1) := by decide +kernel
theorem d_I_sendCut_12 : decode prog_1_method_29_code 12 = .ok (.aload_n 0, 1) := by decide +kernel
theorem d_I_sendCut_13 : decode prog_1_method_29_code 13 = .ok (.getfield 33, 3) := by decide +kernel
theorem d_I_sendCut_16 : decode prog_1_method_29_code 16 = .ok (.iconst 1, 1) := by decide +kernel
theorem d_I_sendCut_17 : decode prog_1_method_29_code 17 = .ok (.aload_n 1, 1) := by decide +kernel
theorem d_I_sendCut_18 : decode prog_1_method_29_code 18 = .ok (.aload_n 2, 1) := by decide +kernel
theorem d_I_sendCut_19 : decode prog_1_method_29_code 19 = .ok (.getfield 209, 3) := by decide +kernel
theorem d_I_sendCut_22 : decode prog_1_method_29_code 22 = .ok (.aload_n 2, 1) := by decide +kernel
theorem d_I_sendCut_23 : decode prog_1_method_29_code 23 = .ok (.getfield 225, 3) := by decide +kernel
theorem d_I_sendCut_26 : decode prog_1_method_29_code 26 = .ok (.iload_n 3, 1) := by decide +kernel
theorem d_I_sendCut_27 : decode prog_1_method_29_code 27 = .ok (.aload_n 1, 1) := by decide +kernel
theorem d_I_sendCut_28 : decode prog_1_method_29_code 28 = .ok (.getfield 60, 3) := by decide +kernel
theorem d_I_sendCut_31 : decode prog_1_method_29_code 31 = .ok (.iload_n 3, 1) := by decide +kernel
theorem d_I_sendCut_32 : decode prog_1_method_29_code 32 = .ok (.iconst 1, 1) := by decide +kernel
theorem d_I_sendCut_33 : decode prog_1_method_29_code 33 = .ok (.isub, 1) := by decide +kernel
theorem d_I_sendCut_34 : decode prog_1_method_29_code 34 = .ok (.invokevirtual 228, 3) := by decide +kernel
theorem d_I_sendCut_37 : decode prog_1_method_29_code 37 = .ok (.invokevirtual 100, 3) := by decide +kernel
theorem d_I_sendCut_40 : decode prog_1_method_29_code 40 = .ok (.pop, 1) := by decide +kernel
theorem d_I_sendCut_41 : decode prog_1_method_29_code 41 = .ok (.return_, 1) := by decide +kernel
theorem d_L_countUpTo_0 : decode prog_5_method_12_code 0 = .ok (.iconst 0, 1) := by decide +kernel
theorem d_L_countUpTo_1 : decode prog_5_method_12_code 1 = .ok (.istore_n 2, 1) := by decide +kernel
theorem d_L_countUpTo_2 : decode prog_5_method_12_code 2 = .ok (.iload_n 2, 1) := by decide +kernel
theorem d_L_countUpTo_3 : decode prog_5_method_12_code 3 = .ok (.aload_n 0, 1) := by decide +kernel
theorem d_L_countUpTo_4 : decode prog_5_method_12_code 4 = .ok (.getfield 18, 3) := by decide +kernel
theorem d_L_countUpTo_7 : decode prog_5_method_12_code 7 = .ok (.if_icmp .ge 18, 3) := by decide +kernel
theorem d_L_countUpTo_10 : decode prog_5_method_12_code 10 = .ok (.aload_n 0, 1) := by decide +kernel
theorem d_L_countUpTo_11 : decode prog_5_method_12_code 11 = .ok (.iload_n 2, 1) := by decide +kernel
theorem d_L_countUpTo_12 : decode prog_5_method_12_code 12 = .ok (.invokevirtual 35, 3) := by decide +kernel
theorem d_L_countUpTo_15 : decode prog_5_method_12_code 15 = .ok (.iload_n 1, 1) := by decide +kernel
theorem d_L_countUpTo_16 : decode prog_5_method_12_code 16 = .ok (.if_icmp .gt 9, 3) := by decide +kernel
theorem d_L_countUpTo_19 : decode prog_5_method_12_code 19 = .ok (.iinc 2 1, 3) := by decide +kernel
theorem d_L_countUpTo_22 : decode prog_5_method_12_code 22 = .ok (.goto (-20), 3) := by decide +kernel
theorem d_L_countUpTo_25 : decode prog_5_method_12_code 25 = .ok (.iload_n 2, 1) := by decide +kernel
theorem d_L_countUpTo_26 : decode prog_5_method_12_code 26 = .ok (.ireturn, 1) := by decide +kernel
theorem d_B_accept_0 : decode prog_2_method_10_code 0 = .ok (.aload_n 0, 1) := by decide +kernel
theorem d_B_accept_1 : decode prog_2_method_10_code 1 = .ok (.aload_n 1, 1) := by decide +kernel
theorem d_B_accept_2 : decode prog_2_method_10_code 2 = .ok (.invokevirtual 94, 3) := by decide +kernel
theorem d_B_accept_5 : decode prog_2_method_10_code 5 = .ok (.ifCond .ne 4, 3) := by decide +kernel
theorem d_B_accept_8 : decode prog_2_method_10_code 8 = .ok (.return_, 1) := by decide +kernel
theorem d_B_accept_9 : decode prog_2_method_10_code 9 = .ok (.aload_n 0, 1) := by decide +kernel
theorem d_B_accept_10 : decode prog_2_method_10_code 10 = .ok (.iconst 0, 1) := by decide +kernel
theorem d_B_accept_11 : decode prog_2_method_10_code 11 = .ok (.putfield 42, 3) := by decide +kernel
theorem d_B_accept_14 : decode prog_2_method_10_code 14 = .ok (.aload_n 1, 1) := by decide +kernel
theorem d_B_accept_15 : decode prog_2_method_10_code 15 = .ok (.getfield 98, 3) := by decide +kernel
theorem d_B_accept_18 : decode prog_2_method_10_code 18 = .ok (.iconst 1, 1) := by decide +kernel
theorem d_B_accept_19 : decode prog_2_method_10_code 19 = .ok (.if_icmp .ne 31, 3) := by decide +kernel
theorem d_B_accept_22 : decode prog_2_method_10_code 22 = .ok (.aload_n 0, 1) := by decide +kernel
theorem d_B_accept_23 : decode prog_2_method_10_code 23 = .ok (.getfield 12, 3) := by decide +kernel
theorem d_B_accept_26 : decode prog_2_method_10_code 26 = .ok (.aload_n 1, 1) := by decide +kernel
theorem d_B_accept_27 : decode prog_2_method_10_code 27 = .ok (.getfield 103, 3) := by decide +kernel
theorem d_B_accept_30 : decode prog_2_method_10_code 30 = .ok (.aload_n 0, 1) := by decide +kernel
theorem d_B_accept_31 : decode prog_2_method_10_code 31 = .ok (.getfield 12, 3) := by decide +kernel
theorem d_B_accept_34 : decode prog_2_method_10_code 34 = .ok (.aload_n 1, 1) := by decide +kernel
theorem d_B_accept_35 : decode prog_2_method_10_code 35 = .ok (.getfield 106, 3) := by decide +kernel
theorem d_B_accept_38 : decode prog_2_method_10_code 38 = .ok (.invokevirtual 109, 3) := by decide +kernel
theorem d_B_accept_41 : decode prog_2_method_10_code 41 = .ok (.invokestatic 87, 3) := by decide +kernel
theorem d_B_accept_44 : decode prog_2_method_10_code 44 = .ok (.invokevirtual 113, 3) := by decide +kernel
theorem d_B_accept_47 : decode prog_2_method_10_code 47 = .ok (.goto 36, 3) := by decide +kernel
theorem d_B_accept_50 : decode prog_2_method_10_code 50 = .ok (.aload_n 1, 1) := by decide +kernel
theorem d_B_accept_51 : decode prog_2_method_10_code 51 = .ok (.aload_n 0, 1) := by decide +kernel
theorem d_B_accept_52 : decode prog_2_method_10_code 52 = .ok (.getfield 12, 3) := by decide +kernel
theorem d_B_accept_55 : decode prog_2_method_10_code 55 = .ok (.invokevirtual 117, 3) := by decide +kernel
theorem d_B_accept_58 : decode prog_2_method_10_code 58 = .ok (.aload_n 0, 1) := by decide +kernel
theorem d_B_accept_59 : decode prog_2_method_10_code 59 = .ok (.aload_n 0, 1) := by decide +kernel
theorem d_B_accept_60 : decode prog_2_method_10_code 60 = .ok (.getfield 36, 3) := by decide +kernel
theorem d_B_accept_63 : decode prog_2_method_10_code 63 = .ok (.aload_n 1, 1) := by decide +kernel
theorem d_B_accept_64 : decode prog_2_method_10_code 64 = .ok (.getfield 106, 3) := by decide +kernel
theorem d_B_accept_67 : decode prog_2_method_10_code 67 = .ok (.aload_n 0, 1) := by decide +kernel
theorem d_B_accept_68 : decode prog_2_method_10_code 68 = .ok (.getfield 12, 3) := by decide +kernel
theorem d_B_accept_71 : decode prog_2_method_10_code 71 = .ok (.getfield 64, 3) := by decide +kernel
theorem d_B_accept_74 : decode prog_2_method_10_code 74 = .ok (.invokestatic 87, 3) := by decide +kernel
theorem d_B_accept_77 : decode prog_2_method_10_code 77 = .ok (.invokestatic 74, 3) := by decide +kernel
theorem d_B_accept_80 : decode prog_2_method_10_code 80 = .ok (.putfield 36, 3) := by decide +kernel
theorem d_B_accept_83 : decode prog_2_method_10_code 83 = .ok (.return_, 1) := by decide +kernel
theorem d_B_isExpecting_0 : decode prog_2_method_11_code 0 = .ok (.aload_n 0, 1) := by decide +kernel
theorem d_B_isExpecting_1 : decode prog_2_method_11_code 1 = .ok (.getfield 25, 3) := by decide +kernel
theorem d_B_isExpecting_4 : decode prog_2_method_11_code 4 = .ok (.ifCond .eq 43, 3) := by decide +kernel
theorem d_B_isExpecting_7 : decode prog_2_method_11_code 7 = .ok (.aload_n 0, 1) := by decide +kernel
theorem d_B_isExpecting_8 : decode prog_2_method_11_code 8 = .ok (.invokevirtual 60, 3) := by decide +kernel
theorem d_B_isExpecting_11 : decode prog_2_method_11_code 11 = .ok (.ifCond .ne 36, 3) := by decide +kernel
theorem d_B_isExpecting_14 : decode prog_2_method_11_code 14 = .ok (.aload_n 0, 1) := by decide +kernel
theorem d_B_isExpecting_15 : decode prog_2_method_11_code 15 = .ok (.getfield 29, 3) := by decide +kernel
theorem d_B_isExpecting_18 : decode prog_2_method_11_code 18 = .ok (.aload_n 1, 1) := by decide +kernel
theorem d_B_isExpecting_19 : decode prog_2_method_11_code 19 = .ok (.getfield 121, 3) := by decide +kernel
theorem d_B_isExpecting_22 : decode prog_2_method_11_code 22 = .ok (.if_icmp .ne 25, 3) := by decide +kernel
theorem d_B_isExpecting_25 : decode prog_2_method_11_code 25 = .ok (.aload_n 0, 1) := by decide +kernel
theorem d_B_isExpecting_26 : decode prog_2_method_11_code 26 = .ok (.getfield 42, 3) := by decide +kernel
theorem d_B_isExpecting_29 : decode prog_2_method_11_code 29 = .ok (.ifCond .eq 18, 3) := by decide +kernel
theorem d_B_isExpecting_32 : decode prog_2_method_11_code 32 = .ok (.aload_n 0, 1) := by decide +kernel
theorem d_B_isExpecting_33 : decode prog_2_method_11_code 33 = .ok (.getfield 39, 3) := by decide +kernel
theorem d_B_isExpecting_36 : decode prog_2_method_11_code 36 = .ok (.aload_n 1, 1) := by decide +kernel
theorem d_B_isExpecting_37 : decode prog_2_method_11_code 37 = .ok (.getfield 122, 3) := by decide +kernel
theorem d_B_isExpecting_40 : decode prog_2_method_11_code 40 = .ok (.if_icmp .ne 7, 3) := by decide +kernel
theorem d_B_isExpecting_43 : decode prog_2_method_11_code 43 = .ok (.iconst 1, 1) := by decide +kernel
theorem d_B_isExpecting_44 : decode prog_2_method_11_code 44 = .ok (.goto 4, 3) := by decide +kernel
theorem d_B_isExpecting_47 : decode prog_2_method_11_code 47 = .ok (.iconst 0, 1) := by decide +kernel
theorem d_B_isExpecting_48 : decode prog_2_method_11_code 48 = .ok (.ireturn, 1) := by decide +kernel
theorem d_L_cutTo_0 : decode prog_5_method_10_code 0 = .ok (.aload_n 0, 1) := by decide +kernel
theorem d_L_cutTo_1 : decode prog_5_method_10_code 1 = .ok (.aload_n 0, 1) := by decide +kernel
theorem d_L_cutTo_2 : decode prog_5_method_10_code 2 = .ok (.getfield 18, 3) := by decide +kernel
theorem d_L_cutTo_5 : decode prog_5_method_10_code 5 = .ok (.iload_n 1, 1) := by decide +kernel
theorem d_L_cutTo_6 : decode prog_5_method_10_code 6 = .ok (.invokestatic 42, 3) := by decide +kernel
theorem d_L_cutTo_9 : decode prog_5_method_10_code 9 = .ok (.putfield 18, 3) := by decide +kernel
theorem d_L_cutTo_12 : decode prog_5_method_10_code 12 = .ok (.return_, 1) := by decide +kernel
theorem d_G_appendRecords_0 : decode prog_6_method_4_code 0 = .ok (.iconst 0, 1) := by decide +kernel
theorem d_G_appendRecords_1 : decode prog_6_method_4_code 1 = .ok (.istore_n 2, 1) := by decide +kernel
theorem d_G_appendRecords_2 : decode prog_6_method_4_code 2 = .ok (.iload_n 2, 1) := by decide +kernel
theorem d_G_appendRecords_3 : decode prog_6_method_4_code 3 = .ok (.aload_n 0, 1) := by decide +kernel
theorem d_G_appendRecords_4 : decode prog_6_method_4_code 4 = .ok (.getfield 34, 3) := by decide +kernel
theorem d_G_appendRecords_7 : decode prog_6_method_4_code 7 = .ok (.if_icmp .ge 30, 3) := by decide +kernel
theorem d_G_appendRecords_10 : decode prog_6_method_4_code 10 = .ok (.iload_n 2, 1) := by decide +kernel
theorem d_G_appendRecords_11 : decode prog_6_method_4_code 11 = .ok (.iconst 3, 1) := by decide +kernel
theorem d_G_appendRecords_12 : decode prog_6_method_4_code 12 = .ok (.if_icmp .ge 25, 3) := by decide +kernel
theorem d_G_appendRecords_15 : decode prog_6_method_4_code 15 = .ok (.aload_n 1, 1) := by decide +kernel
theorem d_G_appendRecords_16 : decode prog_6_method_4_code 16 = .ok (.aload_n 0, 1) := by decide +kernel
theorem d_G_appendRecords_17 : decode prog_6_method_4_code 17 = .ok (.getfield 9, 3) := by decide +kernel
theorem d_G_appendRecords_20 : decode prog_6_method_4_code 20 = .ok (.iload_n 2, 1) := by decide +kernel
theorem d_G_appendRecords_21 : decode prog_6_method_4_code 21 = .ok (.iaload, 1) := by decide +kernel
theorem d_G_appendRecords_22 : decode prog_6_method_4_code 22 = .ok (.aload_n 0, 1) := by decide +kernel
theorem d_G_appendRecords_23 : decode prog_6_method_4_code 23 = .ok (.getfield 15, 3) := by decide +kernel
theorem d_G_appendRecords_26 : decode prog_6_method_4_code 26 = .ok (.iload_n 2, 1) := by decide +kernel
theorem d_G_appendRecords_27 : decode prog_6_method_4_code 27 = .ok (.iaload, 1) := by decide +kernel
theorem d_G_appendRecords_28 : decode prog_6_method_4_code 28 = .ok (.invokevirtual 49, 3) := by decide +kernel
theorem d_G_appendRecords_31 : decode prog_6_method_4_code 31 = .ok (.iinc 2 1, 3) := by decide +kernel
theorem d_G_appendRecords_34 : decode prog_6_method_4_code 34 = .ok (.goto (-32), 3) := by decide +kernel
theorem d_G_appendRecords_37 : decode prog_6_method_4_code 37 = .ok (.return_, 1) := by decide +kernel
theorem d_I_lose_0 : decode prog_1_method_8_code 0 = .ok (.aload_n 0, 1) := by decide +kernel
theorem d_I_lose_1 : decode prog_1_method_8_code 1 = .ok (.getfield 33, 3) := by decide +kernel
theorem d_I_lose_4 : decode prog_1_method_8_code 4 = .ok (.iload_n 1, 1) := by decide +kernel
theorem d_I_lose_5 : decode prog_1_method_8_code 5 = .ok (.invokevirtual 104, 3) := by decide +kernel
theorem d_I_lose_8 : decode prog_1_method_8_code 8 = .ok (.ifnull 7, 3) := by decide +kernel
theorem d_I_lose_11 : decode prog_1_method_8_code 11 = .ok (.iconst 1, 1) := by decide +kernel
theorem d_I_lose_12 : decode prog_1_method_8_code 12 = .ok (.goto 4, 3) := by decide +kernel
theorem d_I_lose_15 : decode prog_1_method_8_code 15 = .ok (.iconst 0, 1) := by decide +kernel
theorem d_I_lose_16 : decode prog_1_method_8_code 16 = .ok (.ireturn, 1) := by decide +kernel
theorem d_I_flight_0 : decode prog_1_method_9_code 0 = .ok (.aload_n 0, 1) := by decide +kernel
theorem d_I_flight_1 : decode prog_1_method_9_code 1 = .ok (.getfield 33, 3) := by decide +kernel
theorem d_I_flight_4 : decode prog_1_method_9_code 4 = .ok (.getfield 124, 3) := by decide +kernel
theorem d_I_flight_7 : decode prog_1_method_9_code 7 = .ok (.ireturn, 1) := by decide +kernel
theorem d_I_message_0 : decode prog_1_method_10_code 0 = .ok (.aload_n 0, 1) := by decide +kernel
theorem d_I_message_1 : decode prog_1_method_10_code 1 = .ok (.getfield 33, 3) := by decide +kernel
theorem d_I_message_4 : decode prog_1_method_10_code 4 = .ok (.iload_n 1, 1) := by decide +kernel
theorem d_I_message_5 : decode prog_1_method_10_code 5 = .ok (.invokevirtual 127, 3) := by decide +kernel
theorem d_I_message_8 : decode prog_1_method_10_code 8 = .ok (.ifCond .eq 19, 3) := by decide +kernel
theorem d_I_message_11 : decode prog_1_method_10_code 11 = .ok (.aload_n 0, 1) := by decide +kernel
theorem d_I_message_12 : decode prog_1_method_10_code 12 = .ok (.getfield 33, 3) := by decide +kernel
theorem d_I_message_15 : decode prog_1_method_10_code 15 = .ok (.getfield 128, 3) := by decide +kernel
theorem d_I_message_18 : decode prog_1_method_10_code 18 = .ok (.iload_n 1, 1) := by decide +kernel
theorem d_I_message_19 : decode prog_1_method_10_code 19 = .ok (.aaload, 1) := by decide +kernel
theorem d_I_message_20 : decode prog_1_method_10_code 20 = .ok (.iload_n 2, 1) := by decide +kernel
theorem d_I_message_21 : decode prog_1_method_10_code 21 = .ok (.invokevirtual 132, 3) := by decide +kernel
theorem d_I_message_24 : decode prog_1_method_10_code 24 = .ok (.goto 4, 3) := by decide +kernel
theorem d_I_message_27 : decode prog_1_method_10_code 27 = .ok (.iconst (-1), 1) := by decide +kernel
theorem d_I_message_28 : decode prog_1_method_10_code 28 = .ok (.ireturn, 1) := by decide +kernel
theorem d_G_word_0 : decode prog_6_method_2_code 0 = .ok (.iload_n 1, 1) := by decide +kernel
theorem d_G_word_1 : decode prog_6_method_2_code 1 = .ok (.tableswitch 78 0 6 #[43, 48, 53, 58, 63, 68, 73], 43) := by decide +kernel
theorem d_G_word_44 : decode prog_6_method_2_code 44 = .ok (.aload_n 0, 1) := by decide +kernel
theorem d_G_word_45 : decode prog_6_method_2_code 45 = .ok (.getfield 18, 3) := by decide +kernel
theorem d_G_word_48 : decode prog_6_method_2_code 48 = .ok (.ireturn, 1) := by decide +kernel
theorem d_G_word_49 : decode prog_6_method_2_code 49 = .ok (.aload_n 0, 1) := by decide +kernel
theorem d_G_word_50 : decode prog_6_method_2_code 50 = .ok (.getfield 22, 3) := by decide +kernel
theorem d_G_word_53 : decode prog_6_method_2_code 53 = .ok (.ireturn, 1) := by decide +kernel
theorem d_G_word_54 : decode prog_6_method_2_code 54 = .ok (.aload_n 0, 1) := by decide +kernel
theorem d_G_word_55 : decode prog_6_method_2_code 55 = .ok (.getfield 25, 3) := by decide +kernel
theorem d_G_word_58 : decode prog_6_method_2_code 58 = .ok (.ireturn, 1) := by decide +kernel
theorem d_G_word_59 : decode prog_6_method_2_code 59 = .ok (.aload_n 0, 1) := by decide +kernel
theorem d_G_word_60 : decode prog_6_method_2_code 60 = .ok (.getfield 28, 3) := by decide +kernel
theorem d_G_word_63 : decode prog_6_method_2_code 63 = .ok (.ireturn, 1) := by decide +kernel
theorem d_G_word_64 : decode prog_6_method_2_code 64 = .ok (.aload_n 0, 1) := by decide +kernel
theorem d_G_word_65 : decode prog_6_method_2_code 65 = .ok (.getfield 31, 3) := by decide +kernel
theorem d_G_word_68 : decode prog_6_method_2_code 68 = .ok (.ireturn, 1) := by decide +kernel
theorem d_G_word_69 : decode prog_6_method_2_code 69 = .ok (.aload_n 0, 1) := by decide +kernel
theorem d_G_word_70 : decode prog_6_method_2_code 70 = .ok (.getfield 34, 3) := by decide +kernel
theorem d_G_word_73 : decode prog_6_method_2_code 73 = .ok (.ireturn, 1) := by decide +kernel
theorem d_G_word_74 : decode prog_6_method_2_code 74 = .ok (.aload_n 0, 1) := by decide +kernel
theorem d_G_word_75 : decode prog_6_method_2_code 75 = .ok (.getfield 37, 3) := by decide +kernel
theorem d_G_word_78 : decode prog_6_method_2_code 78 = .ok (.ireturn, 1) := by decide +kernel
theorem d_G_word_79 : decode prog_6_method_2_code 79 = .ok (.iconst (-1), 1) := by decide +kernel
theorem d_G_word_80 : decode prog_6_method_2_code 80 = .ok (.ireturn, 1) := by decide +kernel
theorem d_I_review_0 : decode prog_1_method_11_code 0 = .ok (.aload_n 0, 1) := by decide +kernel
theorem d_I_review_1 : decode prog_1_method_11_code 1 = .ok (.iload_n 1, 1) := by decide +kernel
theorem d_I_review_2 : decode prog_1_method_11_code 2 = .ok (.invokevirtual 46, 3) := by decide +kernel
theorem d_I_review_5 : decode prog_1_method_11_code 5 = .ok (.ifCond .eq 22, 3) := by decide +kernel
theorem d_I_review_8 : decode prog_1_method_11_code 8 = .ok (.aload_n 0, 1) := by decide +kernel
theorem d_I_review_9 : decode prog_1_method_11_code 9 = .ok (.getfield 39, 3) := by decide +kernel
theorem d_I_review_12 : decode prog_1_method_11_code 12 = .ok (.iload_n 1, 1) := by decide +kernel
theorem d_I_review_13 : decode prog_1_method_11_code 13 = .ok (.aaload, 1) := by decide +kernel
theorem d_I_review_14 : decode prog_1_method_11_code 14 = .ok (.getfield 50, 3) := by decide +kernel
theorem d_I_review_17 : decode prog_1_method_11_code 17 = .ok (.aload_n 0, 1) := by decide +kernel
theorem d_I_review_18 : decode prog_1_method_11_code 18 = .ok (.getfield 26, 3) := by decide +kernel
theorem d_I_review_21 : decode prog_1_method_11_code 21 = .ok (.getfield 135, 3) := by decide +kernel
theorem d_I_review_24 : decode prog_1_method_11_code 24 = .ok (.if_icmp .eq 5, 3) := by decide +kernel
theorem d_I_review_27 : decode prog_1_method_11_code 27 = .ok (.iconst (-1), 1) := by decide +kernel
theorem d_I_review_28 : decode prog_1_method_11_code 28 = .ok (.ireturn, 1) := by decide +kernel
theorem d_I_review_29 : decode prog_1_method_11_code 29 = .ok (.aload_n 0, 1) := by decide +kernel
theorem d_I_review_30 : decode prog_1_method_11_code 30 = .ok (.getfield 39, 3) := by decide +kernel
theorem d_I_review_33 : decode prog_1_method_11_code 33 = .ok (.iload_n 1, 1) := by decide +kernel
theorem d_I_review_34 : decode prog_1_method_11_code 34 = .ok (.aaload, 1) := by decide +kernel
theorem d_I_review_35 : decode prog_1_method_11_code 35 = .ok (.astore_n 2, 1) := by decide +kernel
theorem d_I_review_36 : decode prog_1_method_11_code 36 = .ok (.aload_n 0, 1) := by decide +kernel
theorem d_I_review_37 : decode prog_1_method_11_code 37 = .ok (.getfield 26, 3) := by decide +kernel
theorem d_I_review_40 : decode prog_1_method_11_code 40 = .ok (.aload_n 2, 1) := by decide +kernel
theorem d_I_review_41 : decode prog_1_method_11_code 41 = .ok (.aload_n 0, 1) := by decide +kernel
theorem d_I_review_42 : decode prog_1_method_11_code 42 = .ok (.getfield 136, 3) := by decide +kernel
theorem d_I_review_45 : decode prog_1_method_11_code 45 = .ok (.aload_n 0, 1) := by decide +kernel
theorem d_I_review_46 : decode prog_1_method_11_code 46 = .ok (.getfield 13, 3) := by decide +kernel
theorem d_I_review_49 : decode prog_1_method_11_code 49 = .ok (.invokevirtual 139, 3) := by decide +kernel
theorem d_I_review_52 : decode prog_1_method_11_code 52 = .ok (.putfield 143, 3) := by decide +kernel
theorem d_I_review_55 : decode prog_1_method_11_code 55 = .ok (.aload_n 2, 1) := by decide +kernel
theorem d_I_review_56 : decode prog_1_method_11_code 56 = .ok (.aload_n 0, 1) := by decide +kernel
theorem d_I_review_57 : decode prog_1_method_11_code 57 = .ok (.getfield 26, 3) := by decide +kernel
theorem d_I_review_60 : decode prog_1_method_11_code 60 = .ok (.getfield 143, 3) := by decide +kernel
theorem d_I_review_63 : decode prog_1_method_11_code 63 = .ok (.putfield 146, 3) := by decide +kernel
theorem d_I_review_66 : decode prog_1_method_11_code 66 = .ok (.aload_n 2, 1) := by decide +kernel
theorem d_I_review_67 : decode prog_1_method_11_code 67 = .ok (.invokevirtual 149, 3) := by decide +kernel
theorem d_I_review_70 : decode prog_1_method_11_code 70 = .ok (.aload_n 0, 1) := by decide +kernel
theorem d_I_review_71 : decode prog_1_method_11_code 71 = .ok (.getfield 26, 3) := by decide +kernel
theorem d_I_review_74 : decode prog_1_method_11_code 74 = .ok (.getfield 143, 3) := by decide +kernel
theorem d_I_review_77 : decode prog_1_method_11_code 77 = .ok (.ireturn, 1) := by decide +kernel
theorem d_B_replicasInSync_0 : decode prog_2_method_8_code 0 = .ok (.iconst 1, 1) := by decide +kernel
theorem d_B_replicasInSync_1 : decode prog_2_method_8_code 1 = .ok (.aload_n 0, 1) := by decide +kernel
theorem d_B_replicasInSync_2 : decode prog_2_method_8_code 2 = .ok (.getfield 51, 3) := by decide +kernel
theorem d_B_replicasInSync_5 : decode prog_2_method_8_code 5 = .ok (.ishl, 1) := by decide +kernel
theorem d_B_replicasInSync_6 : decode prog_2_method_8_code 6 = .ok (.istore_n 3, 1) := by decide +kernel
theorem d_B_replicasInSync_7 : decode prog_2_method_8_code 7 = .ok (.iconst 0, 1) := by decide +kernel
theorem d_B_replicasInSync_8 : decode prog_2_method_8_code 8 = .ok (.istore 4, 2) := by decide +kernel
theorem d_B_replicasInSync_10 : decode prog_2_method_8_code 10 = .ok (.iload 4, 2) := by decide +kernel
theorem d_B_replicasInSync_12 : decode prog_2_method_8_code 12 = .ok (.iconst 4, 1) := by decide +kernel
theorem d_B_replicasInSync_13 : decode prog_2_method_8_code 13 = .ok (.if_icmp .ge 62, 3) := by decide +kernel
theorem d_B_replicasInSync_16 : decode prog_2_method_8_code 16 = .ok (.iload_n 1, 1) := by decide +kernel
theorem d_B_replicasInSync_17 : decode prog_2_method_8_code 17 = .ok (.aload_n 0, 1) := by decide +kernel
theorem d_B_replicasInSync_18 : decode prog_2_method_8_code 18 = .ok (.getfield 22, 3) := by decide +kernel
theorem d_B_replicasInSync_21 : decode prog_2_method_8_code 21 = .ok (.iload 4, 2) := by decide +kernel
theorem d_B_replicasInSync_23 : decode prog_2_method_8_code 23 = .ok (.iaload, 1) := by decide +kernel
theorem d_B_replicasInSync_24 : decode prog_2_method_8_code 24 = .ok (.isub, 1) := by decide +kernel
theorem d_B_replicasInSync_25 : decode prog_2_method_8_code 25 = .ok (.iload_n 2, 1) := by decide +kernel
theorem d_B_replicasInSync_26 : decode prog_2_method_8_code 26 = .ok (.if_icmp .le 7, 3) := by decide +kernel
theorem d_B_replicasInSync_29 : decode prog_2_method_8_code 29 = .ok (.iconst 1, 1) := by decide +kernel
theorem d_B_replicasInSync_30 : decode prog_2_method_8_code 30 = .ok (.goto 4, 3) := by decide +kernel
theorem d_B_replicasInSync_33 : decode prog_2_method_8_code 33 = .ok (.iconst 0, 1) := by decide +kernel
theorem d_B_replicasInSync_34 : decode prog_2_method_8_code 34 = .ok (.istore 5, 2) := by decide +kernel
theorem d_B_replicasInSync_36 : decode prog_2_method_8_code 36 = .ok (.iload 5, 2) := by decide +kernel
theorem d_B_replicasInSync_38 : decode prog_2_method_8_code 38 = .ok (.ifCond .ne 31, 3) := by decide +kernel
theorem d_B_replicasInSync_41 : decode prog_2_method_8_code 41 = .ok (.aload_n 0, 1) := by decide +kernel
theorem d_B_replicasInSync_42 : decode prog_2_method_8_code 42 = .ok (.getfield 48, 3) := by decide +kernel
theorem d_B_replicasInSync_45 : decode prog_2_method_8_code 45 = .ok (.iload 4, 2) := by decide +kernel
theorem d_B_replicasInSync_47 : decode prog_2_method_8_code 47 = .ok (.invokestatic 83, 3) := by decide +kernel
theorem d_B_replicasInSync_50 : decode prog_2_method_8_code 50 = .ok (.ifCond .ne 12, 3) := by decide +kernel
theorem d_B_replicasInSync_53 : decode prog_2_method_8_code 53 = .ok (.aload_n 0, 1) := by decide +kernel
theorem d_B_replicasInSync_54 : decode prog_2_method_8_code 54 = .ok (.iload 4, 2) := by decide +kernel
theorem d_B_replicasInSync_56 : decode prog_2_method_8_code 56 = .ok (.invokevirtual 90, 3) := by decide +kernel
theorem d_B_replicasInSync_59 : decode prog_2_method_8_code 59 = .ok (.ifCond .eq 10, 3) := by decide +kernel
theorem d_B_replicasInSync_62 : decode prog_2_method_8_code 62 = .ok (.iload_n 3, 1) := by decide +kernel
theorem d_B_replicasInSync_63 : decode prog_2_method_8_code 63 = .ok (.iconst 1, 1) := by decide +kernel
theorem d_B_replicasInSync_64 : decode prog_2_method_8_code 64 = .ok (.iload 4, 2) := by decide +kernel
theorem d_B_replicasInSync_66 : decode prog_2_method_8_code 66 = .ok (.ishl, 1) := by decide +kernel
theorem d_B_replicasInSync_67 : decode prog_2_method_8_code 67 = .ok (.ior, 1) := by decide +kernel
theorem d_B_replicasInSync_68 : decode prog_2_method_8_code 68 = .ok (.istore_n 3, 1) := by decide +kernel
theorem d_B_replicasInSync_69 : decode prog_2_method_8_code 69 = .ok (.iinc 4 1, 3) := by decide +kernel
theorem d_B_replicasInSync_72 : decode prog_2_method_8_code 72 = .ok (.goto (-62), 3) := by decide +kernel
theorem d_B_replicasInSync_75 : decode prog_2_method_8_code 75 = .ok (.iload_n 3, 1) := by decide +kernel
theorem d_B_replicasInSync_76 : decode prog_2_method_8_code 76 = .ok (.ireturn, 1) := by decide +kernel
theorem d_B_hasFetchedEnough_0 : decode prog_2_method_9_code 0 = .ok (.aload_n 0, 1) := by decide +kernel
theorem d_B_hasFetchedEnough_1 : decode prog_2_method_9_code 1 = .ok (.getfield 18, 3) := by decide +kernel
theorem d_B_hasFetchedEnough_4 : decode prog_2_method_9_code 4 = .ok (.iload_n 1, 1) := by decide +kernel
theorem d_B_hasFetchedEnough_5 : decode prog_2_method_9_code 5 = .ok (.iaload, 1) := by decide +kernel
theorem d_B_hasFetchedEnough_6 : decode prog_2_method_9_code 6 = .ok (.aload_n 0, 1) := by decide +kernel
theorem d_B_hasFetchedEnough_7 : decode prog_2_method_9_code 7 = .ok (.getfield 36, 3) := by decide +kernel
theorem d_B_hasFetchedEnough_10 : decode prog_2_method_9_code 10 = .ok (.if_icmp .lt 20, 3) := by decide +kernel
theorem d_B_hasFetchedEnough_13 : decode prog_2_method_9_code 13 = .ok (.aload_n 0, 1) := by decide +kernel
theorem d_B_hasFetchedEnough_14 : decode prog_2_method_9_code 14 = .ok (.getfield 18, 3) := by decide +kernel
theorem d_B_hasFetchedEnough_17 : decode prog_2_method_9_code 17 = .ok (.iload_n 1, 1) := by decide +kernel
theorem d_B_hasFetchedEnough_18 : decode prog_2_method_9_code 18 = .ok (.iaload, 1) := by decide +kernel
theorem d_B_hasFetchedEnough_19 : decode prog_2_method_9_code 19 = .ok (.aload_n 0, 1) := by decide +kernel
theorem d_B_hasFetchedEnough_20 : decode prog_2_method_9_code 20 = .ok (.getfield 45, 3) := by decide +kernel
theorem d_B_hasFetchedEnough_23 : decode prog_2_method_9_code 23 = .ok (.if_icmp .lt 7, 3) := by decide +kernel
theorem d_B_hasFetchedEnough_26 : decode prog_2_method_9_code 26 = .ok (.iconst 1, 1) := by decide +kernel
theorem d_B_hasFetchedEnough_27 : decode prog_2_method_9_code 27 = .ok (.goto 4, 3) := by decide +kernel
theorem d_B_hasFetchedEnough_30 : decode prog_2_method_9_code 30 = .ok (.iconst 0, 1) := by decide +kernel
theorem d_B_hasFetchedEnough_31 : decode prog_2_method_9_code 31 = .ok (.ireturn, 1) := by decide +kernel
theorem d_I_learn_0 : decode prog_1_method_12_code 0 = .ok (.aload_n 0, 1) := by decide +kernel
theorem d_I_learn_1 : decode prog_1_method_12_code 1 = .ok (.iload_n 1, 1) := by decide +kernel
theorem d_I_learn_2 : decode prog_1_method_12_code 2 = .ok (.invokevirtual 76, 3) := by decide +kernel
theorem d_I_learn_5 : decode prog_1_method_12_code 5 = .ok (.ifCond .eq 22, 3) := by decide +kernel
theorem d_I_learn_8 : decode prog_1_method_12_code 8 = .ok (.aload_n 0, 1) := by decide +kernel
theorem d_I_learn_9 : decode prog_1_method_12_code 9 = .ok (.getfield 39, 3) := by decide +kernel
theorem d_I_learn_12 : decode prog_1_method_12_code 12 = .ok (.iload_n 1, 1) := by decide +kernel
theorem d_I_learn_13 : decode prog_1_method_12_code 13 = .ok (.aaload, 1) := by decide +kernel
theorem d_I_learn_14 : decode prog_1_method_12_code 14 = .ok (.getfield 50, 3) := by decide +kernel
theorem d_I_learn_17 : decode prog_1_method_12_code 17 = .ok (.aload_n 0, 1) := by decide +kernel
theorem d_I_learn_18 : decode prog_1_method_12_code 18 = .ok (.getfield 26, 3) := by decide +kernel
theorem d_I_learn_21 : decode prog_1_method_12_code 21 = .ok (.getfield 135, 3) := by decide +kernel
theorem d_I_learn_24 : decode prog_1_method_12_code 24 = .ok (.if_icmp .ne 5, 3) := by decide +kernel
theorem d_I_learn_27 : decode prog_1_method_12_code 27 = .ok (.iconst 0, 1) := by decide +kernel
theorem d_I_learn_28 : decode prog_1_method_12_code 28 = .ok (.ireturn, 1) := by decide +kernel
theorem d_I_learn_29 : decode prog_1_method_12_code 29 = .ok (.aload_n 0, 1) := by decide +kernel
theorem d_I_learn_30 : decode prog_1_method_12_code 30 = .ok (.getfield 39, 3) := by decide +kernel
theorem d_I_learn_33 : decode prog_1_method_12_code 33 = .ok (.iload_n 1, 1) := by decide +kernel
theorem d_I_learn_34 : decode prog_1_method_12_code 34 = .ok (.aaload, 1) := by decide +kernel
theorem d_I_learn_35 : decode prog_1_method_12_code 35 = .ok (.aload_n 0, 1) := by decide +kernel
theorem d_I_learn_36 : decode prog_1_method_12_code 36 = .ok (.getfield 26, 3) := by decide +kernel
theorem d_I_learn_39 : decode prog_1_method_12_code 39 = .ok (.aload_n 0, 1) := by decide +kernel
theorem d_I_learn_40 : decode prog_1_method_12_code 40 = .ok (.getfield 136, 3) := by decide +kernel
theorem d_I_learn_43 : decode prog_1_method_12_code 43 = .ok (.invokevirtual 152, 3) := by decide +kernel
theorem d_I_learn_46 : decode prog_1_method_12_code 46 = .ok (.iconst 1, 1) := by decide +kernel
theorem d_I_learn_47 : decode prog_1_method_12_code 47 = .ok (.ireturn, 1) := by decide +kernel
theorem d_B_adopt_0 : decode prog_2_method_4_code 0 = .ok (.aload_n 0, 1) := by decide +kernel
theorem d_B_adopt_1 : decode prog_2_method_4_code 1 = .ok (.aload_n 1, 1) := by decide +kernel
theorem d_B_adopt_2 : decode prog_2_method_4_code 2 = .ok (.getfield 67, 3) := by decide +kernel
theorem d_B_adopt_5 : decode prog_2_method_4_code 5 = .ok (.putfield 29, 3) := by decide +kernel
theorem d_B_adopt_8 : decode prog_2_method_4_code 8 = .ok (.aload_n 0, 1) := by decide +kernel
theorem d_B_adopt_9 : decode prog_2_method_4_code 9 = .ok (.aload_n 1, 1) := by decide +kernel
theorem d_B_adopt_10 : decode prog_2_method_4_code 10 = .ok (.getfield 70, 3) := by decide +kernel
theorem d_B_adopt_13 : decode prog_2_method_4_code 13 = .ok (.putfield 33, 3) := by decide +kernel
theorem d_B_adopt_16 : decode prog_2_method_4_code 16 = .ok (.aload_n 0, 1) := by decide +kernel
theorem d_B_adopt_17 : decode prog_2_method_4_code 17 = .ok (.iconst 0, 1) := by decide +kernel
theorem d_B_adopt_18 : decode prog_2_method_4_code 18 = .ok (.putfield 42, 3) := by decide +kernel
theorem d_B_adopt_21 : decode prog_2_method_4_code 21 = .ok (.aload_n 0, 1) := by decide +kernel
theorem d_B_adopt_22 : decode prog_2_method_4_code 22 = .ok (.invokevirtual 60, 3) := by decide +kernel
theorem d_B_adopt_25 : decode prog_2_method_4_code 25 = .ok (.ifCond .eq 38, 3) := by decide +kernel
theorem d_B_adopt_28 : decode prog_2_method_4_code 28 = .ok (.aload_n 0, 1) := by decide +kernel
theorem d_B_adopt_29 : decode prog_2_method_4_code 29 = .ok (.aload_n 0, 1) := by decide +kernel
theorem d_B_adopt_30 : decode prog_2_method_4_code 30 = .ok (.getfield 12, 3) := by decide +kernel
theorem d_B_adopt_33 : decode prog_2_method_4_code 33 = .ok (.getfield 64, 3) := by decide +kernel
theorem d_B_adopt_36 : decode prog_2_method_4_code 36 = .ok (.putfield 45, 3) := by decide +kernel
theorem d_B_adopt_39 : decode prog_2_method_4_code 39 = .ok (.aload_n 0, 1) := by decide +kernel
theorem d_B_adopt_40 : decode prog_2_method_4_code 40 = .ok (.aload_n 1, 1) := by decide +kernel
theorem d_B_adopt_41 : decode prog_2_method_4_code 41 = .ok (.getfield 71, 3) := by decide +kernel
theorem d_B_adopt_44 : decode prog_2_method_4_code 44 = .ok (.putfield 48, 3) := by decide +kernel
theorem d_B_adopt_47 : decode prog_2_method_4_code 47 = .ok (.aload_n 0, 1) := by decide +kernel
theorem d_B_adopt_48 : decode prog_2_method_4_code 48 = .ok (.getfield 18, 3) := by decide +kernel
theorem d_B_adopt_51 : decode prog_2_method_4_code 51 = .ok (.iconst (-1), 1) := by decide +kernel
theorem d_B_adopt_52 : decode prog_2_method_4_code 52 = .ok (.invokestatic 54, 3) := by decide +kernel
theorem d_B_adopt_55 : decode prog_2_method_4_code 55 = .ok (.aload_n 0, 1) := by decide +kernel
theorem d_B_adopt_56 : decode prog_2_method_4_code 56 = .ok (.getfield 22, 3) := by decide +kernel
theorem d_B_adopt_59 : decode prog_2_method_4_code 59 = .ok (.iload_n 2, 1) := by decide +kernel
theorem d_B_adopt_60 : decode prog_2_method_4_code 60 = .ok (.invokestatic 54, 3) := by decide +kernel
theorem d_B_adopt_63 : decode prog_2_method_4_code 63 = .ok (.return_, 1) := by decide +kernel
theorem d_I_crash_0 : decode prog_1_method_13_code 0 = .ok (.aload_n 0, 1) := by decide +kernel
theorem d_I_crash_1 : decode prog_1_method_13_code 1 = .ok (.iload_n 1, 1) := by decide +kernel
theorem d_I_crash_2 : decode prog_1_method_13_code 2 = .ok (.invokevirtual 76, 3) := by decide +kernel
theorem d_I_crash_5 : decode prog_1_method_13_code 5 = .ok (.ifCond .ne 5, 3) := by decide +kernel
theorem d_I_crash_8 : decode prog_1_method_13_code 8 = .ok (.iconst 0, 1) := by decide +kernel
theorem d_I_crash_9 : decode prog_1_method_13_code 9 = .ok (.ireturn, 1) := by decide +kernel
theorem d_I_crash_10 : decode prog_1_method_13_code 10 = .ok (.aload_n 0, 1) := by decide +kernel
theorem d_I_crash_11 : decode prog_1_method_13_code 11 = .ok (.getfield 39, 3) := by decide +kernel
theorem d_I_crash_14 : decode prog_1_method_13_code 14 = .ok (.iload_n 1, 1) := by decide +kernel
theorem d_I_crash_15 : decode prog_1_method_13_code 15 = .ok (.aaload, 1) := by decide +kernel
theorem d_I_crash_16 : decode prog_1_method_13_code 16 = .ok (.invokevirtual 156, 3) := by decide +kernel
theorem d_I_crash_19 : decode prog_1_method_13_code 19 = .ok (.iconst 1, 1) := by decide +kernel
theorem d_I_crash_20 : decode prog_1_method_13_code 20 = .ok (.ireturn, 1) := by decide +kernel
theorem d_B_goDown_0 : decode prog_2_method_5_code 0 = .ok (.aload_n 0, 1) := by decide +kernel
theorem d_B_goDown_1 : decode prog_2_method_5_code 1 = .ok (.iconst 0, 1) := by decide +kernel
theorem d_B_goDown_2 : decode prog_2_method_5_code 2 = .ok (.putfield 25, 3) := by decide +kernel
theorem d_B_goDown_5 : decode prog_2_method_5_code 5 = .ok (.aload_n 0, 1) := by decide +kernel
theorem d_B_goDown_6 : decode prog_2_method_5_code 6 = .ok (.iconst 0, 1) := by decide +kernel
theorem d_B_goDown_7 : decode prog_2_method_5_code 7 = .ok (.putfield 29, 3) := by decide +kernel
theorem d_B_goDown_10 : decode prog_2_method_5_code 10 = .ok (.aload_n 0, 1) := by decide +kernel
theorem d_B_goDown_11 : decode prog_2_method_5_code 11 = .ok (.iconst (-1), 1) := by decide +kernel
theorem d_B_goDown_12 : decode prog_2_method_5_code 12 = .ok (.putfield 33, 3) := by decide +kernel
theorem d_B_goDown_15 : decode prog_2_method_5_code 15 = .ok (.aload_n 0, 1) := by decide +kernel
theorem d_B_goDown_16 : decode prog_2_method_5_code 16 = .ok (.iconst 0, 1) := by decide +kernel
theorem d_B_goDown_17 : decode prog_2_method_5_code 17 = .ok (.putfield 42, 3) := by decide +kernel
theorem d_B_goDown_20 : decode prog_2_method_5_code 20 = .ok (.return_, 1) := by decide +kernel
theorem d_I_restart_0 : decode prog_1_method_14_code 0 = .ok (.iload_n 1, 1) := by decide +kernel
theorem d_I_restart_1 : decode prog_1_method_14_code 1 = .ok (.invokestatic 159, 3) := by decide +kernel
theorem d_I_restart_4 : decode prog_1_method_14_code 4 = .ok (.ifCond .eq 15, 3) := by decide +kernel
theorem d_I_restart_7 : decode prog_1_method_14_code 7 = .ok (.aload_n 0, 1) := by decide +kernel
theorem d_I_restart_8 : decode prog_1_method_14_code 8 = .ok (.getfield 39, 3) := by decide +kernel
theorem d_I_restart_11 : decode prog_1_method_14_code 11 = .ok (.iload_n 1, 1) := by decide +kernel
theorem d_I_restart_12 : decode prog_1_method_14_code 12 = .ok (.aaload, 1) := by decide +kernel
theorem d_I_restart_13 : decode prog_1_method_14_code 13 = .ok (.getfield 162, 3) := by decide +kernel
theorem d_I_restart_16 : decode prog_1_method_14_code 16 = .ok (.ifCond .eq 5, 3) := by decide +kernel
theorem d_I_restart_19 : decode prog_1_method_14_code 19 = .ok (.iconst 0, 1) := by decide +kernel
theorem d_I_restart_20 : decode prog_1_method_14_code 20 = .ok (.ireturn, 1) := by decide +kernel
theorem d_I_restart_21 : decode prog_1_method_14_code 21 = .ok (.aload_n 0, 1) := by decide +kernel
theorem d_I_restart_22 : decode prog_1_method_14_code 22 = .ok (.getfield 39, 3) := by decide +kernel
theorem d_I_restart_25 : decode prog_1_method_14_code 25 = .ok (.iload_n 1, 1) := by decide +kernel
theorem d_I_restart_26 : decode prog_1_method_14_code 26 = .ok (.aaload, 1) := by decide +kernel
theorem d_I_restart_27 : decode prog_1_method_14_code 27 = .ok (.iconst 1, 1) := by decide +kernel
theorem d_I_restart_28 : decode prog_1_method_14_code 28 = .ok (.putfield 162, 3) := by decide +kernel
theorem d_I_restart_31 : decode prog_1_method_14_code 31 = .ok (.iconst 1, 1) := by decide +kernel
theorem d_I_restart_32 : decode prog_1_method_14_code 32 = .ok (.ireturn, 1) := by decide +kernel
theorem d_I_govern_0 : decode prog_1_method_15_code 0 = .ok (.iconst 0, 1) := by decide +kernel
theorem d_I_govern_1 : decode prog_1_method_15_code 1 = .ok (.istore_n 2, 1) := by decide +kernel
theorem d_I_govern_2 : decode prog_1_method_15_code 2 = .ok (.iconst 0, 1) := by decide +kernel
theorem d_I_govern_3 : decode prog_1_method_15_code 3 = .ok (.istore_n 3, 1) := by decide +kernel
theorem d_I_govern_4 : decode prog_1_method_15_code 4 = .ok (.iload_n 3, 1) := by decide +kernel
theorem d_I_govern_5 : decode prog_1_method_15_code 5 = .ok (.iconst 4, 1) := by decide +kernel
theorem d_I_govern_6 : decode prog_1_method_15_code 6 = .ok (.if_icmp .ge 35, 3) := by decide +kernel
theorem d_I_govern_9 : decode prog_1_method_15_code 9 = .ok (.aload_n 0, 1) := by decide +kernel
theorem d_I_govern_10 : decode prog_1_method_15_code 10 = .ok (.getfield 39, 3) := by decide +kernel
theorem d_I_govern_13 : decode prog_1_method_15_code 13 = .ok (.iload_n 3, 1) := by decide +kernel
theorem d_I_govern_14 : decode prog_1_method_15_code 14 = .ok (.aaload, 1) := by decide +kernel
theorem d_I_govern_15 : decode prog_1_method_15_code 15 = .ok (.getfield 162, 3) := by decide +kernel
theorem d_I_govern_18 : decode prog_1_method_15_code 18 = .ok (.ifCond .eq 17, 3) := by decide +kernel
theorem d_I_govern_21 : decode prog_1_method_15_code 21 = .ok (.iload_n 1, 1) := by decide +kernel
theorem d_I_govern_22 : decode prog_1_method_15_code 22 = .ok (.iload_n 3, 1) := by decide +kernel
theorem d_I_govern_23 : decode prog_1_method_15_code 23 = .ok (.invokestatic 165, 3) := by decide +kernel
theorem d_I_govern_26 : decode prog_1_method_15_code 26 = .ok (.ifCond .ne 9, 3) := by decide +kernel
theorem d_I_govern_29 : decode prog_1_method_15_code 29 = .ok (.iload_n 2, 1) := by decide +kernel
theorem d_I_govern_30 : decode prog_1_method_15_code 30 = .ok (.iconst 1, 1) := by decide +kernel
theorem d_I_govern_31 : decode prog_1_method_15_code 31 = .ok (.iload_n 3, 1) := by decide +kernel
theorem d_I_govern_32 : decode prog_1_method_15_code 32 = .ok (.ishl, 1) := by decide +kernel
theorem d_I_govern_33 : decode prog_1_method_15_code 33 = .ok (.ior, 1) := by decide +kernel
theorem d_I_govern_34 : decode prog_1_method_15_code 34 = .ok (.istore_n 2, 1) := by decide +kernel
theorem d_I_govern_35 : decode prog_1_method_15_code 35 = .ok (.iinc 3 1, 3) := by decide +kernel
theorem d_I_govern_38 : decode prog_1_method_15_code 38 = .ok (.goto (-34), 3) := by decide +kernel
theorem d_I_govern_41 : decode prog_1_method_15_code 41 = .ok (.aload_n 0, 1) := by decide +kernel
theorem d_I_govern_42 : decode prog_1_method_15_code 42 = .ok (.getfield 26, 3) := by decide +kernel
theorem d_I_govern_45 : decode prog_1_method_15_code 45 = .ok (.iload_n 2, 1) := by decide +kernel
theorem d_I_govern_46 : decode prog_1_method_15_code 46 = .ok (.invokevirtual 169, 3) := by decide +kernel
theorem d_I_govern_49 : decode prog_1_method_15_code 49 = .ok (.ireturn, 1) := by decide +kernel
theorem d_T_reactTo_0 : decode prog_4_method_2_code 0 = .ok (.aload_n 0, 1) := by decide +kernel
theorem d_T_reactTo_1 : decode prog_4_method_2_code 1 = .ok (.getfield 18, 3) := by decide +kernel
theorem d_T_reactTo_4 : decode prog_4_method_2_code 4 = .ok (.iload_n 1, 1) := by decide +kernel
theorem d_T_reactTo_5 : decode prog_4_method_2_code 5 = .ok (.iand, 1) := by decide +kernel
theorem d_T_reactTo_6 : decode prog_4_method_2_code 6 = .ok (.istore_n 2, 1) := by decide +kernel
theorem d_T_reactTo_7 : decode prog_4_method_2_code 7 = .ok (.aload_n 0, 1) := by decide +kernel
theorem d_T_reactTo_8 : decode prog_4_method_2_code 8 = .ok (.getfield 15, 3) := by decide +kernel
theorem d_T_reactTo_11 : decode prog_4_method_2_code 11 = .ok (.iconst (-1), 1) := by decide +kernel
theorem d_T_reactTo_12 : decode prog_4_method_2_code 12 = .ok (.if_icmp .eq 18, 3) := by decide +kernel
theorem d_T_reactTo_15 : decode prog_4_method_2_code 15 = .ok (.iload_n 1, 1) := by decide +kernel
theorem d_T_reactTo_16 : decode prog_4_method_2_code 16 = .ok (.aload_n 0, 1) := by decide +kernel
theorem d_T_reactTo_17 : decode prog_4_method_2_code 17 = .ok (.getfield 15, 3) := by decide +kernel
theorem d_T_reactTo_20 : decode prog_4_method_2_code 20 = .ok (.invokestatic 21, 3) := by decide +kernel
theorem d_T_reactTo_23 : decode prog_4_method_2_code 23 = .ok (.ifCond .eq 7, 3) := by decide +kernel
theorem d_T_reactTo_26 : decode prog_4_method_2_code 26 = .ok (.iconst 1, 1) := by decide +kernel
theorem d_T_reactTo_27 : decode prog_4_method_2_code 27 = .ok (.goto 4, 3) := by decide +kernel
theorem d_T_reactTo_30 : decode prog_4_method_2_code 30 = .ok (.iconst 0, 1) := by decide +kernel
theorem d_T_reactTo_31 : decode prog_4_method_2_code 31 = .ok (.istore_n 3, 1) := by decide +kernel
theorem d_T_reactTo_32 : decode prog_4_method_2_code 32 = .ok (.iload_n 2, 1) := by decide +kernel
theorem d_T_reactTo_33 : decode prog_4_method_2_code 33 = .ok (.ifCond .ne 29, 3) := by decide +kernel
theorem d_T_reactTo_36 : decode prog_4_method_2_code 36 = .ok (.aload_n 0, 1) := by decide +kernel
theorem d_T_reactTo_37 : decode prog_4_method_2_code 37 = .ok (.getfield 15, 3) := by decide +kernel
theorem d_T_reactTo_40 : decode prog_4_method_2_code 40 = .ok (.iconst (-1), 1) := by decide +kernel
theorem d_T_reactTo_41 : decode prog_4_method_2_code 41 = .ok (.if_icmp .eq 19, 3) := by decide +kernel
theorem d_T_reactTo_44 : decode prog_4_method_2_code 44 = .ok (.aload_n 0, 1) := by decide +kernel
theorem d_T_reactTo_45 : decode prog_4_method_2_code 45 = .ok (.iconst (-1), 1) := by decide +kernel
theorem d_T_reactTo_46 : decode prog_4_method_2_code 46 = .ok (.aload_n 0, 1) := by decide +kernel
theorem d_T_reactTo_47 : decode prog_4_method_2_code 47 = .ok (.getfield 18, 3) := by decide +kernel
theorem d_T_reactTo_50 : decode prog_4_method_2_code 50 = .ok (.invokevirtual 25, 3) := by decide +kernel
theorem d_T_reactTo_53 : decode prog_4_method_2_code 53 = .ok (.ifCond .eq 7, 3) := by decide +kernel
theorem d_T_reactTo_56 : decode prog_4_method_2_code 56 = .ok (.iconst 1, 1) := by decide +kernel
theorem d_T_reactTo_57 : decode prog_4_method_2_code 57 = .ok (.goto 4, 3) := by decide +kernel
theorem d_T_reactTo_60 : decode prog_4_method_2_code 60 = .ok (.iconst 0, 1) := by decide +kernel
theorem d_T_reactTo_61 : decode prog_4_method_2_code 61 = .ok (.ireturn, 1) := by decide +kernel
theorem d_T_reactTo_62 : decode prog_4_method_2_code 62 = .ok (.iload_n 3, 1) := by decide +kernel
theorem d_T_reactTo_63 : decode prog_4_method_2_code 63 = .ok (.ifCond .eq 13, 3) := by decide +kernel
theorem d_T_reactTo_66 : decode prog_4_method_2_code 66 = .ok (.iload_n 2, 1) := by decide +kernel
theorem d_T_reactTo_67 : decode prog_4_method_2_code 67 = .ok (.aload_n 0, 1) := by decide +kernel
theorem d_T_reactTo_68 : decode prog_4_method_2_code 68 = .ok (.getfield 18, 3) := by decide +kernel
theorem d_T_reactTo_71 : decode prog_4_method_2_code 71 = .ok (.if_icmp .ne 5, 3) := by decide +kernel
theorem d_T_reactTo_74 : decode prog_4_method_2_code 74 = .ok (.iconst 0, 1) := by decide +kernel
theorem d_T_reactTo_75 : decode prog_4_method_2_code 75 = .ok (.ireturn, 1) := by decide +kernel
theorem d_T_reactTo_76 : decode prog_4_method_2_code 76 = .ok (.aload_n 0, 1) := by decide +kernel
theorem d_T_reactTo_77 : decode prog_4_method_2_code 77 = .ok (.iload_n 3, 1) := by decide +kernel
theorem d_T_reactTo_78 : decode prog_4_method_2_code 78 = .ok (.ifCond .eq 10, 3) := by decide +kernel
theorem d_T_reactTo_81 : decode prog_4_method_2_code 81 = .ok (.aload_n 0, 1) := by decide +kernel
theorem d_T_reactTo_82 : decode prog_4_method_2_code 82 = .ok (.getfield 15, 3) := by decide +kernel
theorem d_T_reactTo_85 : decode prog_4_method_2_code 85 = .ok (.goto 7, 3) := by decide +kernel
theorem d_T_reactTo_88 : decode prog_4_method_2_code 88 = .ok (.iload_n 2, 1) := by decide +kernel
theorem d_T_reactTo_89 : decode prog_4_method_2_code 89 = .ok (.invokestatic 28, 3) := by decide +kernel
theorem d_T_reactTo_92 : decode prog_4_method_2_code 92 = .ok (.iload_n 2, 1) := by decide +kernel
theorem d_T_reactTo_93 : decode prog_4_method_2_code 93 = .ok (.invokevirtual 25, 3) := by decide +kernel
theorem d_T_reactTo_96 : decode prog_4_method_2_code 96 = .ok (.ireturn, 1) := by decide +kernel
theorem d_T_begin_0 : decode prog_4_method_3_code 0 = .ok (.aload_n 0, 1) := by decide +kernel
theorem d_T_begin_1 : decode prog_4_method_3_code 1 = .ok (.iload_n 1, 1) := by decide +kernel
theorem d_T_begin_2 : decode prog_4_method_3_code 2 = .ok (.putfield 15, 3) := by decide +kernel
theorem d_T_begin_5 : decode prog_4_method_3_code 5 = .ok (.aload_n 0, 1) := by decide +kernel
theorem d_T_begin_6 : decode prog_4_method_3_code 6 = .ok (.iload_n 2, 1) := by decide +kernel
theorem d_T_begin_7 : decode prog_4_method_3_code 7 = .ok (.putfield 18, 3) := by decide +kernel
theorem d_T_begin_10 : decode prog_4_method_3_code 10 = .ok (.aload_n 0, 1) := by decide +kernel
theorem d_T_begin_11 : decode prog_4_method_3_code 11 = .ok (.dup, 1) := by decide +kernel
theorem d_T_begin_12 : decode prog_4_method_3_code 12 = .ok (.getfield 9, 3) := by decide +kernel
theorem d_T_begin_15 : decode prog_4_method_3_code 15 = .ok (.iconst 1, 1) := by decide +kernel
theorem d_T_begin_16 : decode prog_4_method_3_code 16 = .ok (.iadd, 1) := by decide +kernel
theorem d_T_begin_17 : decode prog_4_method_3_code 17 = .ok (.putfield 9, 3) := by decide +kernel
theorem d_T_begin_20 : decode prog_4_method_3_code 20 = .ok (.iconst 1, 1) := by decide +kernel
theorem d_T_begin_21 : decode prog_4_method_3_code 21 = .ok (.ireturn, 1) := by decide +kernel
theorem d_I_leastOf_0 : decode prog_1_method_24_code 0 = .ok (.iconst 0, 1) := by decide +kernel
theorem d_I_leastOf_1 : decode prog_1_method_24_code 1 = .ok (.istore_n 1, 1) := by decide +kernel
theorem d_I_leastOf_2 : decode prog_1_method_24_code 2 = .ok (.iload_n 1, 1) := by decide +kernel
theorem d_I_leastOf_3 : decode prog_1_method_24_code 3 = .ok (.iconst 4, 1) := by decide +kernel
theorem d_I_leastOf_4 : decode prog_1_method_24_code 4 = .ok (.if_icmp .ge 19, 3) := by decide +kernel
theorem d_I_leastOf_7 : decode prog_1_method_24_code 7 = .ok (.iload_n 0, 1) := by decide +kernel
theorem d_I_leastOf_8 : decode prog_1_method_24_code 8 = .ok (.iload_n 1, 1) := by decide +kernel
theorem d_I_leastOf_9 : decode prog_1_method_24_code 9 = .ok (.invokestatic 165, 3) := by decide +kernel
theorem d_I_leastOf_12 : decode prog_1_method_24_code 12 = .ok (.ifCond .eq 5, 3) := by decide +kernel
theorem d_I_leastOf_15 : decode prog_1_method_24_code 15 = .ok (.iload_n 1, 1) := by decide +kernel
theorem d_I_leastOf_16 : decode prog_1_method_24_code 16 = .ok (.ireturn, 1) := by decide +kernel
theorem d_I_leastOf_17 : decode prog_1_method_24_code 17 = .ok (.iinc 1 1, 3) := by decide +kernel
theorem d_I_leastOf_20 : decode prog_1_method_24_code 20 = .ok (.goto (-18), 3) := by decide +kernel
theorem d_I_leastOf_23 : decode prog_1_method_24_code 23 = .ok (.iconst (-1), 1) := by decide +kernel
theorem d_I_leastOf_24 : decode prog_1_method_24_code 24 = .ok (.ireturn, 1) := by decide +kernel
theorem d_I_tick_0 : decode prog_1_method_16_code 0 = .ok (.iload_n 1, 1) := by decide +kernel
theorem d_I_tick_1 : decode prog_1_method_16_code 1 = .ok (.ifCond .lt 9, 3) := by decide +kernel
theorem d_I_tick_4 : decode prog_1_method_16_code 4 = .ok (.iload_n 1, 1) := by decide +kernel
theorem d_I_tick_5 : decode prog_1_method_16_code 5 = .ok (.bipush 50, 2) := by decide +kernel
theorem d_I_tick_7 : decode prog_1_method_16_code 7 = .ok (.if_icmp .le 5, 3) := by decide +kernel
theorem d_I_tick_10 : decode prog_1_method_16_code 10 = .ok (.iconst 0, 1) := by decide +kernel
theorem d_I_tick_11 : decode prog_1_method_16_code 11 = .ok (.ireturn, 1) := by decide +kernel
theorem d_I_tick_12 : decode prog_1_method_16_code 12 = .ok (.aload_n 0, 1) := by decide +kernel
theorem d_I_tick_13 : decode prog_1_method_16_code 13 = .ok (.dup, 1) := by decide +kernel
theorem d_I_tick_14 : decode prog_1_method_16_code 14 = .ok (.getfield 136, 3) := by decide +kernel
theorem d_I_tick_17 : decode prog_1_method_16_code 17 = .ok (.iload_n 1, 1) := by decide +kernel
theorem d_I_tick_18 : decode prog_1_method_16_code 18 = .ok (.iadd, 1) := by decide +kernel
theorem d_I_tick_19 : decode prog_1_method_16_code 19 = .ok (.putfield 136, 3) := by decide +kernel
theorem d_I_tick_22 : decode prog_1_method_16_code 22 = .ok (.iconst 1, 1) := by decide +kernel
theorem d_I_tick_23 : decode prog_1_method_16_code 23 = .ok (.ireturn, 1) := by decide +kernel
theorem d_I_controller_0 : decode prog_1_method_17_code 0 = .ok (.iload_n 1, 1) := by decide +kernel
theorem d_I_controller_1 : decode prog_1_method_17_code 1 = .ok (.tableswitch 51 0 2 #[27, 35, 43], 27) := by decide +kernel
theorem d_I_controller_28 : decode prog_1_method_17_code 28 = .ok (.aload_n 0, 1) := by decide +kernel
theorem d_I_controller_29 : decode prog_1_method_17_code 29 = .ok (.getfield 26, 3) := by decide +kernel
theorem d_I_controller_32 : decode prog_1_method_17_code 32 = .ok (.getfield 135, 3) := by decide +kernel
theorem d_I_controller_35 : decode prog_1_method_17_code 35 = .ok (.ireturn, 1) := by decide +kernel
theorem d_I_controller_36 : decode prog_1_method_17_code 36 = .ok (.aload_n 0, 1) := by decide +kernel
theorem d_I_controller_37 : decode prog_1_method_17_code 37 = .ok (.getfield 26, 3) := by decide +kernel
theorem d_I_controller_40 : decode prog_1_method_17_code 40 = .ok (.getfield 172, 3) := by decide +kernel
theorem d_I_controller_43 : decode prog_1_method_17_code 43 = .ok (.ireturn, 1) := by decide +kernel
theorem d_I_controller_44 : decode prog_1_method_17_code 44 = .ok (.aload_n 0, 1) := by decide +kernel
theorem d_I_controller_45 : decode prog_1_method_17_code 45 = .ok (.getfield 26, 3) := by decide +kernel
theorem d_I_controller_48 : decode prog_1_method_17_code 48 = .ok (.getfield 143, 3) := by decide +kernel
theorem d_I_controller_51 : decode prog_1_method_17_code 51 = .ok (.ireturn, 1) := by decide +kernel
theorem d_I_controller_52 : decode prog_1_method_17_code 52 = .ok (.iconst (-1), 1) := by decide +kernel
theorem d_I_controller_53 : decode prog_1_method_17_code 53 = .ok (.ireturn, 1) := by decide +kernel
theorem d_I_broker_0 : decode prog_1_method_18_code 0 = .ok (.iload_n 1, 1) := by decide +kernel
theorem d_I_broker_1 : decode prog_1_method_18_code 1 = .ok (.invokestatic 159, 3) := by decide +kernel
theorem d_I_broker_4 : decode prog_1_method_18_code 4 = .ok (.ifCond .eq 16, 3) := by decide +kernel
theorem d_I_broker_7 : decode prog_1_method_18_code 7 = .ok (.aload_n 0, 1) := by decide +kernel
theorem d_I_broker_8 : decode prog_1_method_18_code 8 = .ok (.getfield 39, 3) := by decide +kernel
theorem d_I_broker_11 : decode prog_1_method_18_code 11 = .ok (.iload_n 1, 1) := by decide +kernel
theorem d_I_broker_12 : decode prog_1_method_18_code 12 = .ok (.aaload, 1) := by decide +kernel
theorem d_I_broker_13 : decode prog_1_method_18_code 13 = .ok (.iload_n 2, 1) := by decide +kernel
theorem d_I_broker_14 : decode prog_1_method_18_code 14 = .ok (.invokevirtual 173, 3) := by decide +kernel
theorem d_I_broker_17 : decode prog_1_method_18_code 17 = .ok (.goto 4, 3) := by decide +kernel
theorem d_I_broker_20 : decode prog_1_method_18_code 20 = .ok (.iconst (-1), 1) := by decide +kernel
theorem d_I_broker_21 : decode prog_1_method_18_code 21 = .ok (.ireturn, 1) := by decide +kernel
theorem d_B_fact_0 : decode prog_2_method_3_code 0 = .ok (.iload_n 1, 1) := by decide +kernel
theorem d_B_fact_1 : decode prog_2_method_3_code 1 = .ok (.tableswitch 100 0 6 #[43, 56, 61, 66, 82, 90, 95], 43) := by decide +kernel
theorem d_B_fact_44 : decode prog_2_method_3_code 44 = .ok (.aload_n 0, 1) := by decide +kernel
theorem d_B_fact_45 : decode prog_2_method_3_code 45 = .ok (.getfield 25, 3) := by decide +kernel
theorem d_B_fact_48 : decode prog_2_method_3_code 48 = .ok (.ifCond .eq 7, 3) := by decide +kernel
theorem d_B_fact_51 : decode prog_2_method_3_code 51 = .ok (.iconst 1, 1) := by decide +kernel
theorem d_B_fact_52 : decode prog_2_method_3_code 52 = .ok (.goto 4, 3) := by decide +kernel
theorem d_B_fact_55 : decode prog_2_method_3_code 55 = .ok (.iconst 0, 1) := by decide +kernel
theorem d_B_fact_56 : decode prog_2_method_3_code 56 = .ok (.ireturn, 1) := by decide +kernel
theorem d_B_fact_57 : decode prog_2_method_3_code 57 = .ok (.aload_n 0, 1) := by decide +kernel
theorem d_B_fact_58 : decode prog_2_method_3_code 58 = .ok (.getfield 29, 3) := by decide +kernel
theorem d_B_fact_61 : decode prog_2_method_3_code 61 = .ok (.ireturn, 1) := by decide +kernel
theorem d_B_fact_62 : decode prog_2_method_3_code 62 = .ok (.aload_n 0, 1) := by decide +kernel
theorem d_B_fact_63 : decode prog_2_method_3_code 63 = .ok (.getfield 33, 3) := by decide +kernel
theorem d_B_fact_66 : decode prog_2_method_3_code 66 = .ok (.ireturn, 1) := by decide +kernel
theorem d_B_fact_67 : decode prog_2_method_3_code 67 = .ok (.aload_n 0, 1) := by decide +kernel
theorem d_B_fact_68 : decode prog_2_method_3_code 68 = .ok (.invokevirtual 60, 3) := by decide +kernel
theorem d_B_fact_71 : decode prog_2_method_3_code 71 = .ok (.ifCond .eq 10, 3) := by decide +kernel
theorem d_B_fact_74 : decode prog_2_method_3_code 74 = .ok (.aload_n 0, 1) := by decide +kernel
theorem d_B_fact_75 : decode prog_2_method_3_code 75 = .ok (.getfield 48, 3) := by decide +kernel
theorem d_B_fact_78 : decode prog_2_method_3_code 78 = .ok (.goto 4, 3) := by decide +kernel
theorem d_B_fact_81 : decode prog_2_method_3_code 81 = .ok (.iconst 0, 1) := by decide +kernel
theorem d_B_fact_82 : decode prog_2_method_3_code 82 = .ok (.ireturn, 1) := by decide +kernel
theorem d_B_fact_83 : decode prog_2_method_3_code 83 = .ok (.aload_n 0, 1) := by decide +kernel
theorem d_B_fact_84 : decode prog_2_method_3_code 84 = .ok (.getfield 12, 3) := by decide +kernel
theorem d_B_fact_87 : decode prog_2_method_3_code 87 = .ok (.getfield 64, 3) := by decide +kernel
theorem d_B_fact_90 : decode prog_2_method_3_code 90 = .ok (.ireturn, 1) := by decide +kernel
theorem d_B_fact_91 : decode prog_2_method_3_code 91 = .ok (.aload_n 0, 1) := by decide +kernel
theorem d_B_fact_92 : decode prog_2_method_3_code 92 = .ok (.getfield 36, 3) := by decide +kernel
theorem d_B_fact_95 : decode prog_2_method_3_code 95 = .ok (.ireturn, 1) := by decide +kernel
theorem d_B_fact_96 : decode prog_2_method_3_code 96 = .ok (.aload_n 0, 1) := by decide +kernel
theorem d_B_fact_97 : decode prog_2_method_3_code 97 = .ok (.getfield 39, 3) := by decide +kernel
theorem d_B_fact_100 : decode prog_2_method_3_code 100 = .ok (.ireturn, 1) := by decide +kernel
theorem d_B_fact_101 : decode prog_2_method_3_code 101 = .ok (.iconst (-1), 1) := by decide +kernel
theorem d_B_fact_102 : decode prog_2_method_3_code 102 = .ok (.ireturn, 1) := by decide +kernel
theorem d_I_epochAt_0 : decode prog_1_method_19_code 0 = .ok (.iload_n 1, 1) := by decide +kernel
theorem d_I_epochAt_1 : decode prog_1_method_19_code 1 = .ok (.invokestatic 159, 3) := by decide +kernel
theorem d_I_epochAt_4 : decode prog_1_method_19_code 4 = .ok (.ifCond .eq 19, 3) := by decide +kernel
theorem d_I_epochAt_7 : decode prog_1_method_19_code 7 = .ok (.aload_n 0, 1) := by decide +kernel
theorem d_I_epochAt_8 : decode prog_1_method_19_code 8 = .ok (.getfield 39, 3) := by decide +kernel
theorem d_I_epochAt_11 : decode prog_1_method_19_code 11 = .ok (.iload_n 1, 1) := by decide +kernel
theorem d_I_epochAt_12 : decode prog_1_method_19_code 12 = .ok (.aaload, 1) := by decide +kernel
theorem d_I_epochAt_13 : decode prog_1_method_19_code 13 = .ok (.getfield 60, 3) := by decide +kernel
theorem d_I_epochAt_16 : decode prog_1_method_19_code 16 = .ok (.iload_n 2, 1) := by decide +kernel
theorem d_I_epochAt_17 : decode prog_1_method_19_code 17 = .ok (.invokevirtual 176, 3) := by decide +kernel
theorem d_I_epochAt_20 : decode prog_1_method_19_code 20 = .ok (.goto 4, 3) := by decide +kernel
theorem d_I_epochAt_23 : decode prog_1_method_19_code 23 = .ok (.iconst 0, 1) := by decide +kernel
theorem d_I_epochAt_24 : decode prog_1_method_19_code 24 = .ok (.ireturn, 1) := by decide +kernel
theorem d_I_valueAt_0 : decode prog_1_method_20_code 0 = .ok (.iload_n 1, 1) := by decide +kernel
theorem d_I_valueAt_1 : decode prog_1_method_20_code 1 = .ok (.invokestatic 159, 3) := by decide +kernel
theorem d_I_valueAt_4 : decode prog_1_method_20_code 4 = .ok (.ifCond .eq 19, 3) := by decide +kernel
theorem d_I_valueAt_7 : decode prog_1_method_20_code 7 = .ok (.aload_n 0, 1) := by decide +kernel
theorem d_I_valueAt_8 : decode prog_1_method_20_code 8 = .ok (.getfield 39, 3) := by decide +kernel
theorem d_I_valueAt_11 : decode prog_1_method_20_code 11 = .ok (.iload_n 1, 1) := by decide +kernel
theorem d_I_valueAt_12 : decode prog_1_method_20_code 12 = .ok (.aaload, 1) := by decide +kernel
theorem d_I_valueAt_13 : decode prog_1_method_20_code 13 = .ok (.getfield 60, 3) := by decide +kernel
theorem d_I_valueAt_16 : decode prog_1_method_20_code 16 = .ok (.iload_n 2, 1) := by decide +kernel
theorem d_I_valueAt_17 : decode prog_1_method_20_code 17 = .ok (.invokevirtual 72, 3) := by decide +kernel
theorem d_I_valueAt_20 : decode prog_1_method_20_code 20 = .ok (.goto 4, 3) := by decide +kernel
theorem d_I_valueAt_23 : decode prog_1_method_20_code 23 = .ok (.iconst 0, 1) := by decide +kernel
theorem d_I_valueAt_24 : decode prog_1_method_20_code 24 = .ok (.ireturn, 1) := by decide +kernel
end
section
theorem d_M_init_0 : decode prog_8_method_1_code 0 = .ok (.aload_n 0, 1) := by decide +kernel
theorem d_M_init_1 : decode prog_8_method_1_code 1 = .ok (.invokespecial 1, 3) := by decide +kernel
theorem d_M_init_4 : decode prog_8_method_1_code 4 = .ok (.aload_n 0, 1) := by decide +kernel
theorem d_M_init_5 : decode prog_8_method_1_code 5 = .ok (.iconst 1, 1) := by decide +kernel
theorem d_M_init_6 : decode prog_8_method_1_code 6 = .ok (.putfield 7, 3) := by decide +kernel
theorem d_M_init_9 : decode prog_8_method_1_code 9 = .ok (.aload_n 0, 1) := by decide +kernel
theorem d_M_init_10 : decode prog_8_method_1_code 10 = .ok (.iconst 4, 1) := by decide +kernel
theorem d_M_init_11 : decode prog_8_method_1_code 11 = .ok (.newarray .boolean, 2) := by decide +kernel
theorem d_M_init_13 : decode prog_8_method_1_code 13 = .ok (.putfield 13, 3) := by decide +kernel
theorem d_M_init_16 : decode prog_8_method_1_code 16 = .ok (.aload_n 0, 1) := by decide +kernel
theorem d_M_init_17 : decode prog_8_method_1_code 17 = .ok (.sipush 520, 3) := by decide +kernel
theorem d_M_init_20 : decode prog_8_method_1_code 20 = .ok (.newarray .int, 2) := by decide +kernel
theorem d_M_init_22 : decode prog_8_method_1_code 22 = .ok (.putfield 17, 3) := by decide +kernel
theorem d_M_init_25 : decode prog_8_method_1_code 25 = .ok (.aload_n 0, 1) := by decide +kernel
theorem d_M_init_26 : decode prog_8_method_1_code 26 = .ok (.sipush 520, 3) := by decide +kernel
theorem d_M_init_29 : decode prog_8_method_1_code 29 = .ok (.newarray .int, 2) := by decide +kernel
theorem d_M_init_31 : decode prog_8_method_1_code 31 = .ok (.putfield 21, 3) := by decide +kernel
theorem d_M_init_34 : decode prog_8_method_1_code 34 = .ok (.aload_n 0, 1) := by decide +kernel
theorem d_M_init_35 : decode prog_8_method_1_code 35 = .ok (.sipush 520, 3) := by decide +kernel
theorem d_M_init_38 : decode prog_8_method_1_code 38 = .ok (.newarray .int, 2) := by decide +kernel
theorem d_M_init_40 : decode prog_8_method_1_code 40 = .ok (.putfield 24, 3) := by decide +kernel
theorem d_M_init_43 : decode prog_8_method_1_code 43 = .ok (.aload_n 0, 1) := by decide +kernel
theorem d_M_init_44 : decode prog_8_method_1_code 44 = .ok (.sipush 520, 3) := by decide +kernel
theorem d_M_init_47 : decode prog_8_method_1_code 47 = .ok (.newarray .int, 2) := by decide +kernel
theorem d_M_init_49 : decode prog_8_method_1_code 49 = .ok (.putfield 27, 3) := by decide +kernel
theorem d_M_init_52 : decode prog_8_method_1_code 52 = .ok (.aload_n 0, 1) := by decide +kernel
theorem d_M_init_53 : decode prog_8_method_1_code 53 = .ok (.sipush 520, 3) := by decide +kernel
theorem d_M_init_56 : decode prog_8_method_1_code 56 = .ok (.newarray .boolean, 2) := by decide +kernel
theorem d_M_init_58 : decode prog_8_method_1_code 58 = .ok (.putfield 30, 3) := by decide +kernel
theorem d_M_init_61 : decode prog_8_method_1_code 61 = .ok (.aload_n 0, 1) := by decide +kernel
theorem d_M_init_62 : decode prog_8_method_1_code 62 = .ok (.iconst 4, 1) := by decide +kernel
theorem d_M_init_63 : decode prog_8_method_1_code 63 = .ok (.newarray .int, 2) := by decide +kernel
theorem d_M_init_65 : decode prog_8_method_1_code 65 = .ok (.putfield 33, 3) := by decide +kernel
theorem d_M_init_68 : decode prog_8_method_1_code 68 = .ok (.aload_n 0, 1) := by decide +kernel
theorem d_M_init_69 : decode prog_8_method_1_code 69 = .ok (.iconst 4, 1) := by decide +kernel
theorem d_M_init_70 : decode prog_8_method_1_code 70 = .ok (.newarray .int, 2) := by decide +kernel
theorem d_M_init_72 : decode prog_8_method_1_code 72 = .ok (.putfield 36, 3) := by decide +kernel
theorem d_M_init_75 : decode prog_8_method_1_code 75 = .ok (.aload_n 0, 1) := by decide +kernel
theorem d_M_init_76 : decode prog_8_method_1_code 76 = .ok (.iconst 4, 1) := by decide +kernel
theorem d_M_init_77 : decode prog_8_method_1_code 77 = .ok (.newarray .boolean, 2) := by decide +kernel
theorem d_M_init_79 : decode prog_8_method_1_code 79 = .ok (.putfield 39, 3) := by decide +kernel
theorem d_M_init_82 : decode prog_8_method_1_code 82 = .ok (.aload_n 0, 1) := by decide +kernel
theorem d_M_init_83 : decode prog_8_method_1_code 83 = .ok (.iconst 4, 1) := by decide +kernel
theorem d_M_init_84 : decode prog_8_method_1_code 84 = .ok (.newarray .int, 2) := by decide +kernel
theorem d_M_init_86 : decode prog_8_method_1_code 86 = .ok (.putfield 42, 3) := by decide +kernel
theorem d_M_init_89 : decode prog_8_method_1_code 89 = .ok (.aload_n 0, 1) := by decide +kernel
theorem d_M_init_90 : decode prog_8_method_1_code 90 = .ok (.iconst 4, 1) := by decide +kernel
theorem d_M_init_91 : decode prog_8_method_1_code 91 = .ok (.newarray .int, 2) := by decide +kernel
theorem d_M_init_93 : decode prog_8_method_1_code 93 = .ok (.putfield 45, 3) := by decide +kernel
theorem d_M_init_96 : decode prog_8_method_1_code 96 = .ok (.aload_n 0, 1) := by decide +kernel
theorem d_M_init_97 : decode prog_8_method_1_code 97 = .ok (.iconst 4, 1) := by decide +kernel
theorem d_M_init_98 : decode prog_8_method_1_code 98 = .ok (.newarray .int, 2) := by decide +kernel
theorem d_M_init_100 : decode prog_8_method_1_code 100 = .ok (.putfield 48, 3) := by decide +kernel
theorem d_M_init_103 : decode prog_8_method_1_code 103 = .ok (.aload_n 0, 1) := by decide +kernel
theorem d_M_init_104 : decode prog_8_method_1_code 104 = .ok (.iconst 4, 1) := by decide +kernel
theorem d_M_init_105 : decode prog_8_method_1_code 105 = .ok (.newarray .boolean, 2) := by decide +kernel
theorem d_M_init_107 : decode prog_8_method_1_code 107 = .ok (.putfield 51, 3) := by decide +kernel
theorem d_M_init_110 : decode prog_8_method_1_code 110 = .ok (.aload_n 0, 1) := by decide +kernel
theorem d_M_init_111 : decode prog_8_method_1_code 111 = .ok (.bipush 16, 2) := by decide +kernel
theorem d_M_init_113 : decode prog_8_method_1_code 113 = .ok (.newarray .boolean, 2) := by decide +kernel
theorem d_M_init_115 : decode prog_8_method_1_code 115 = .ok (.putfield 54, 3) := by decide +kernel
theorem d_M_init_118 : decode prog_8_method_1_code 118 = .ok (.aload_n 0, 1) := by decide +kernel
theorem d_M_init_119 : decode prog_8_method_1_code 119 = .ok (.bipush 16, 2) := by decide +kernel
theorem d_M_init_121 : decode prog_8_method_1_code 121 = .ok (.newarray .int, 2) := by decide +kernel
theorem d_M_init_123 : decode prog_8_method_1_code 123 = .ok (.putfield 57, 3) := by decide +kernel
theorem d_M_init_126 : decode prog_8_method_1_code 126 = .ok (.aload_n 0, 1) := by decide +kernel
theorem d_M_init_127 : decode prog_8_method_1_code 127 = .ok (.bipush 16, 2) := by decide +kernel
theorem d_M_init_129 : decode prog_8_method_1_code 129 = .ok (.newarray .int, 2) := by decide +kernel
theorem d_M_init_131 : decode prog_8_method_1_code 131 = .ok (.putfield 60, 3) := by decide +kernel
theorem d_M_init_134 : decode prog_8_method_1_code 134 = .ok (.aload_n 0, 1) := by decide +kernel
theorem d_M_init_135 : decode prog_8_method_1_code 135 = .ok (.iconst 4, 1) := by decide +kernel
theorem d_M_init_136 : decode prog_8_method_1_code 136 = .ok (.newarray .int, 2) := by decide +kernel
theorem d_M_init_138 : decode prog_8_method_1_code 138 = .ok (.putfield 63, 3) := by decide +kernel
theorem d_M_init_141 : decode prog_8_method_1_code 141 = .ok (.aload_n 0, 1) := by decide +kernel
theorem d_M_init_142 : decode prog_8_method_1_code 142 = .ok (.bipush 8, 2) := by decide +kernel
theorem d_M_init_144 : decode prog_8_method_1_code 144 = .ok (.newarray .int, 2) := by decide +kernel
theorem d_M_init_146 : decode prog_8_method_1_code 146 = .ok (.putfield 66, 3) := by decide +kernel
theorem d_M_init_149 : decode prog_8_method_1_code 149 = .ok (.aload_n 0, 1) := by decide +kernel
theorem d_M_init_150 : decode prog_8_method_1_code 150 = .ok (.bipush 8, 2) := by decide +kernel
theorem d_M_init_152 : decode prog_8_method_1_code 152 = .ok (.newarray .int, 2) := by decide +kernel
theorem d_M_init_154 : decode prog_8_method_1_code 154 = .ok (.putfield 69, 3) := by decide +kernel
theorem d_M_init_157 : decode prog_8_method_1_code 157 = .ok (.aload_n 0, 1) := by decide +kernel
theorem d_M_init_158 : decode prog_8_method_1_code 158 = .ok (.bipush 8, 2) := by decide +kernel
theorem d_M_init_160 : decode prog_8_method_1_code 160 = .ok (.newarray .int, 2) := by decide +kernel
theorem d_M_init_162 : decode prog_8_method_1_code 162 = .ok (.putfield 72, 3) := by decide +kernel
theorem d_M_init_165 : decode prog_8_method_1_code 165 = .ok (.aload_n 0, 1) := by decide +kernel
theorem d_M_init_166 : decode prog_8_method_1_code 166 = .ok (.bipush 8, 2) := by decide +kernel
theorem d_M_init_168 : decode prog_8_method_1_code 168 = .ok (.newarray .int, 2) := by decide +kernel
theorem d_M_init_170 : decode prog_8_method_1_code 170 = .ok (.putfield 75, 3) := by decide +kernel
theorem d_M_init_173 : decode prog_8_method_1_code 173 = .ok (.aload_n 0, 1) := by decide +kernel
theorem d_M_init_174 : decode prog_8_method_1_code 174 = .ok (.bipush 8, 2) := by decide +kernel
theorem d_M_init_176 : decode prog_8_method_1_code 176 = .ok (.newarray .int, 2) := by decide +kernel
theorem d_M_init_178 : decode prog_8_method_1_code 178 = .ok (.putfield 78, 3) := by decide +kernel
theorem d_M_init_181 : decode prog_8_method_1_code 181 = .ok (.aload_n 0, 1) := by decide +kernel
theorem d_M_init_182 : decode prog_8_method_1_code 182 = .ok (.bipush 8, 2) := by decide +kernel
theorem d_M_init_184 : decode prog_8_method_1_code 184 = .ok (.newarray .int, 2) := by decide +kernel
theorem d_M_init_186 : decode prog_8_method_1_code 186 = .ok (.putfield 81, 3) := by decide +kernel
theorem d_M_init_189 : decode prog_8_method_1_code 189 = .ok (.aload_n 0, 1) := by decide +kernel
theorem d_M_init_190 : decode prog_8_method_1_code 190 = .ok (.bipush 8, 2) := by decide +kernel
theorem d_M_init_192 : decode prog_8_method_1_code 192 = .ok (.newarray .int, 2) := by decide +kernel
theorem d_M_init_194 : decode prog_8_method_1_code 194 = .ok (.putfield 84, 3) := by decide +kernel
theorem d_M_init_197 : decode prog_8_method_1_code 197 = .ok (.aload_n 0, 1) := by decide +kernel
theorem d_M_init_198 : decode prog_8_method_1_code 198 = .ok (.bipush 8, 2) := by decide +kernel
theorem d_M_init_200 : decode prog_8_method_1_code 200 = .ok (.newarray .int, 2) := by decide +kernel
theorem d_M_init_202 : decode prog_8_method_1_code 202 = .ok (.putfield 87, 3) := by decide +kernel
theorem d_M_init_205 : decode prog_8_method_1_code 205 = .ok (.aload_n 0, 1) := by decide +kernel
theorem d_M_init_206 : decode prog_8_method_1_code 206 = .ok (.bipush 8, 2) := by decide +kernel
theorem d_M_init_208 : decode prog_8_method_1_code 208 = .ok (.newarray .int, 2) := by decide +kernel
theorem d_M_init_210 : decode prog_8_method_1_code 210 = .ok (.putfield 90, 3) := by decide +kernel
theorem d_M_init_213 : decode prog_8_method_1_code 213 = .ok (.aload_n 0, 1) := by decide +kernel
theorem d_M_init_214 : decode prog_8_method_1_code 214 = .ok (.iload_n 1, 1) := by decide +kernel
theorem d_M_init_215 : decode prog_8_method_1_code 215 = .ok (.iconst 1, 1) := by decide +kernel
theorem d_M_init_216 : decode prog_8_method_1_code 216 = .ok (.if_icmp .ge 7, 3) := by decide +kernel
theorem d_M_init_219 : decode prog_8_method_1_code 219 = .ok (.iconst 1, 1) := by decide +kernel
theorem d_M_init_220 : decode prog_8_method_1_code 220 = .ok (.goto 15, 3) := by decide +kernel
theorem d_M_init_223 : decode prog_8_method_1_code 223 = .ok (.iload_n 1, 1) := by decide +kernel
theorem d_M_init_224 : decode prog_8_method_1_code 224 = .ok (.bipush 20, 2) := by decide +kernel
theorem d_M_init_226 : decode prog_8_method_1_code 226 = .ok (.if_icmp .le 8, 3) := by decide +kernel
theorem d_M_init_229 : decode prog_8_method_1_code 229 = .ok (.bipush 20, 2) := by decide +kernel
theorem d_M_init_231 : decode prog_8_method_1_code 231 = .ok (.goto 4, 3) := by decide +kernel
theorem d_M_init_234 : decode prog_8_method_1_code 234 = .ok (.iload_n 1, 1) := by decide +kernel
theorem d_M_init_235 : decode prog_8_method_1_code 235 = .ok (.putfield 93, 3) := by decide +kernel
theorem d_M_init_238 : decode prog_8_method_1_code 238 = .ok (.aload_n 0, 1) := by decide +kernel
theorem d_M_init_239 : decode prog_8_method_1_code 239 = .ok (.iload_n 2, 1) := by decide +kernel
theorem d_M_init_240 : decode prog_8_method_1_code 240 = .ok (.iconst 1, 1) := by decide +kernel
theorem d_M_init_241 : decode prog_8_method_1_code 241 = .ok (.if_icmp .ge 7, 3) := by decide +kernel
theorem d_M_init_244 : decode prog_8_method_1_code 244 = .ok (.iconst 1, 1) := by decide +kernel
theorem d_M_init_245 : decode prog_8_method_1_code 245 = .ok (.goto 13, 3) := by decide +kernel
theorem d_M_init_248 : decode prog_8_method_1_code 248 = .ok (.iload_n 2, 1) := by decide +kernel
theorem d_M_init_249 : decode prog_8_method_1_code 249 = .ok (.iconst 3, 1) := by decide +kernel
theorem d_M_init_250 : decode prog_8_method_1_code 250 = .ok (.if_icmp .le 7, 3) := by decide +kernel
theorem d_M_init_253 : decode prog_8_method_1_code 253 = .ok (.iconst 3, 1) := by decide +kernel
theorem d_M_init_254 : decode prog_8_method_1_code 254 = .ok (.goto 4, 3) := by decide +kernel
theorem d_M_init_257 : decode prog_8_method_1_code 257 = .ok (.iload_n 2, 1) := by decide +kernel
theorem d_M_init_258 : decode prog_8_method_1_code 258 = .ok (.putfield 96, 3) := by decide +kernel
theorem d_M_init_261 : decode prog_8_method_1_code 261 = .ok (.aload_n 0, 1) := by decide +kernel
theorem d_M_init_262 : decode prog_8_method_1_code 262 = .ok (.iload_n 3, 1) := by decide +kernel
theorem d_M_init_263 : decode prog_8_method_1_code 263 = .ok (.iconst 1, 1) := by decide +kernel
theorem d_M_init_264 : decode prog_8_method_1_code 264 = .ok (.if_icmp .ge 7, 3) := by decide +kernel
theorem d_M_init_267 : decode prog_8_method_1_code 267 = .ok (.iconst 1, 1) := by decide +kernel
theorem d_M_init_268 : decode prog_8_method_1_code 268 = .ok (.goto 13, 3) := by decide +kernel
theorem d_M_init_271 : decode prog_8_method_1_code 271 = .ok (.iload_n 3, 1) := by decide +kernel
theorem d_M_init_272 : decode prog_8_method_1_code 272 = .ok (.iconst 3, 1) := by decide +kernel
theorem d_M_init_273 : decode prog_8_method_1_code 273 = .ok (.if_icmp .le 7, 3) := by decide +kernel
theorem d_M_init_276 : decode prog_8_method_1_code 276 = .ok (.iconst 3, 1) := by decide +kernel
theorem d_M_init_277 : decode prog_8_method_1_code 277 = .ok (.goto 4, 3) := by decide +kernel
theorem d_M_init_280 : decode prog_8_method_1_code 280 = .ok (.iload_n 3, 1) := by decide +kernel
theorem d_M_init_281 : decode prog_8_method_1_code 281 = .ok (.putfield 99, 3) := by decide +kernel
theorem d_M_init_284 : decode prog_8_method_1_code 284 = .ok (.iconst 0, 1) := by decide +kernel
theorem d_M_init_285 : decode prog_8_method_1_code 285 = .ok (.istore 4, 2) := by decide +kernel
theorem d_M_init_287 : decode prog_8_method_1_code 287 = .ok (.iload 4, 2) := by decide +kernel
theorem d_M_init_289 : decode prog_8_method_1_code 289 = .ok (.iconst 4, 1) := by decide +kernel
theorem d_M_init_290 : decode prog_8_method_1_code 290 = .ok (.if_icmp .ge 33, 3) := by decide +kernel
theorem d_M_init_293 : decode prog_8_method_1_code 293 = .ok (.aload_n 0, 1) := by decide +kernel
theorem d_M_init_294 : decode prog_8_method_1_code 294 = .ok (.getfield 39, 3) := by decide +kernel
theorem d_M_init_297 : decode prog_8_method_1_code 297 = .ok (.iload 4, 2) := by decide +kernel
theorem d_M_init_299 : decode prog_8_method_1_code 299 = .ok (.iconst 1, 1) := by decide +kernel
theorem d_M_init_300 : decode prog_8_method_1_code 300 = .ok (.bastore, 1) := by decide +kernel
theorem d_M_init_301 : decode prog_8_method_1_code 301 = .ok (.aload_n 0, 1) := by decide +kernel
theorem d_M_init_302 : decode prog_8_method_1_code 302 = .ok (.getfield 13, 3) := by decide +kernel
theorem d_M_init_305 : decode prog_8_method_1_code 305 = .ok (.iload 4, 2) := by decide +kernel
theorem d_M_init_307 : decode prog_8_method_1_code 307 = .ok (.iconst 1, 1) := by decide +kernel
theorem d_M_init_308 : decode prog_8_method_1_code 308 = .ok (.bastore, 1) := by decide +kernel
theorem d_M_init_309 : decode prog_8_method_1_code 309 = .ok (.aload_n 0, 1) := by decide +kernel
theorem d_M_init_310 : decode prog_8_method_1_code 310 = .ok (.getfield 42, 3) := by decide +kernel
theorem d_M_init_313 : decode prog_8_method_1_code 313 = .ok (.iload 4, 2) := by decide +kernel
theorem d_M_init_315 : decode prog_8_method_1_code 315 = .ok (.iconst 1, 1) := by decide +kernel
theorem d_M_init_316 : decode prog_8_method_1_code 316 = .ok (.iastore, 1) := by decide +kernel
theorem d_M_init_317 : decode prog_8_method_1_code 317 = .ok (.iinc 4 1, 3) := by decide +kernel
theorem d_M_init_320 : decode prog_8_method_1_code 320 = .ok (.goto (-33), 3) := by decide +kernel
theorem d_M_init_323 : decode prog_8_method_1_code 323 = .ok (.aload_n 0, 1) := by decide +kernel
theorem d_M_init_324 : decode prog_8_method_1_code 324 = .ok (.iconst 0, 1) := by decide +kernel
theorem d_M_init_325 : decode prog_8_method_1_code 325 = .ok (.invokevirtual 102, 3) := by decide +kernel
theorem d_M_init_328 : decode prog_8_method_1_code 328 = .ok (.return_, 1) := by decide +kernel
theorem d_M_takeOver_0 : decode prog_8_method_4_code 0 = .ok (.aload_n 0, 1) := by decide +kernel
theorem d_M_takeOver_1 : decode prog_8_method_4_code 1 = .ok (.getfield 63, 3) := by decide +kernel
theorem d_M_takeOver_4 : decode prog_8_method_4_code 4 = .ok (.iload_n 1, 1) := by decide +kernel
theorem d_M_takeOver_5 : decode prog_8_method_4_code 5 = .ok (.aload_n 0, 1) := by decide +kernel
theorem d_M_takeOver_6 : decode prog_8_method_4_code 6 = .ok (.getfield 21, 3) := by decide +kernel
theorem d_M_takeOver_9 : decode prog_8_method_4_code 9 = .ok (.aload_n 0, 1) := by decide +kernel
theorem d_M_takeOver_10 : decode prog_8_method_4_code 10 = .ok (.getfield 33, 3) := by decide +kernel
theorem d_M_takeOver_13 : decode prog_8_method_4_code 13 = .ok (.iload_n 1, 1) := by decide +kernel
theorem d_M_takeOver_14 : decode prog_8_method_4_code 14 = .ok (.iaload, 1) := by decide +kernel
theorem d_M_takeOver_15 : decode prog_8_method_4_code 15 = .ok (.iaload, 1) := by decide +kernel
theorem d_M_takeOver_16 : decode prog_8_method_4_code 16 = .ok (.iastore, 1) := by decide +kernel
theorem d_M_takeOver_17 : decode prog_8_method_4_code 17 = .ok (.iconst 0, 1) := by decide +kernel
theorem d_M_takeOver_18 : decode prog_8_method_4_code 18 = .ok (.istore_n 2, 1) := by decide +kernel
theorem d_M_takeOver_19 : decode prog_8_method_4_code 19 = .ok (.iload_n 2, 1) := by decide +kernel
theorem d_M_takeOver_20 : decode prog_8_method_4_code 20 = .ok (.iconst 4, 1) := by decide +kernel
theorem d_M_takeOver_21 : decode prog_8_method_4_code 21 = .ok (.if_icmp .ge 50, 3) := by decide +kernel
theorem d_M_takeOver_24 : decode prog_8_method_4_code 24 = .ok (.aload_n 0, 1) := by decide +kernel
theorem d_M_takeOver_25 : decode prog_8_method_4_code 25 = .ok (.getfield 54, 3) := by decide +kernel
theorem d_M_takeOver_28 : decode prog_8_method_4_code 28 = .ok (.iconst 4, 1) := by decide +kernel
theorem d_M_takeOver_29 : decode prog_8_method_4_code 29 = .ok (.iload_n 1, 1) := by decide +kernel
theorem d_M_takeOver_30 : decode prog_8_method_4_code 30 = .ok (.imul, 1) := by decide +kernel
theorem d_M_takeOver_31 : decode prog_8_method_4_code 31 = .ok (.iload_n 2, 1) := by decide +kernel
theorem d_M_takeOver_32 : decode prog_8_method_4_code 32 = .ok (.iadd, 1) := by decide +kernel
theorem d_M_takeOver_33 : decode prog_8_method_4_code 33 = .ok (.aload_n 0, 1) := by decide +kernel
theorem d_M_takeOver_34 : decode prog_8_method_4_code 34 = .ok (.getfield 13, 3) := by decide +kernel
theorem d_M_takeOver_37 : decode prog_8_method_4_code 37 = .ok (.iload_n 2, 1) := by decide +kernel
theorem d_M_takeOver_38 : decode prog_8_method_4_code 38 = .ok (.baload, 1) := by decide +kernel
theorem d_M_takeOver_39 : decode prog_8_method_4_code 39 = .ok (.bastore, 1) := by decide +kernel
theorem d_M_takeOver_40 : decode prog_8_method_4_code 40 = .ok (.aload_n 0, 1) := by decide +kernel
theorem d_M_takeOver_41 : decode prog_8_method_4_code 41 = .ok (.getfield 57, 3) := by decide +kernel
theorem d_M_takeOver_44 : decode prog_8_method_4_code 44 = .ok (.iconst 4, 1) := by decide +kernel
theorem d_M_takeOver_45 : decode prog_8_method_4_code 45 = .ok (.iload_n 1, 1) := by decide +kernel
theorem d_M_takeOver_46 : decode prog_8_method_4_code 46 = .ok (.imul, 1) := by decide +kernel
theorem d_M_takeOver_47 : decode prog_8_method_4_code 47 = .ok (.iload_n 2, 1) := by decide +kernel
theorem d_M_takeOver_48 : decode prog_8_method_4_code 48 = .ok (.iadd, 1) := by decide +kernel
theorem d_M_takeOver_49 : decode prog_8_method_4_code 49 = .ok (.iconst (-1), 1) := by decide +kernel
theorem d_M_takeOver_50 : decode prog_8_method_4_code 50 = .ok (.iastore, 1) := by decide +kernel
theorem d_M_takeOver_51 : decode prog_8_method_4_code 51 = .ok (.aload_n 0, 1) := by decide +kernel
theorem d_M_takeOver_52 : decode prog_8_method_4_code 52 = .ok (.getfield 60, 3) := by decide +kernel
theorem d_M_takeOver_55 : decode prog_8_method_4_code 55 = .ok (.iconst 4, 1) := by decide +kernel
theorem d_M_takeOver_56 : decode prog_8_method_4_code 56 = .ok (.iload_n 1, 1) := by decide +kernel
theorem d_M_takeOver_57 : decode prog_8_method_4_code 57 = .ok (.imul, 1) := by decide +kernel
theorem d_M_takeOver_58 : decode prog_8_method_4_code 58 = .ok (.iload_n 2, 1) := by decide +kernel
theorem d_M_takeOver_59 : decode prog_8_method_4_code 59 = .ok (.iadd, 1) := by decide +kernel
theorem d_M_takeOver_60 : decode prog_8_method_4_code 60 = .ok (.aload_n 0, 1) := by decide +kernel
theorem d_M_takeOver_61 : decode prog_8_method_4_code 61 = .ok (.getfield 110, 3) := by decide +kernel
theorem d_M_takeOver_64 : decode prog_8_method_4_code 64 = .ok (.iastore, 1) := by decide +kernel
theorem d_M_takeOver_65 : decode prog_8_method_4_code 65 = .ok (.iinc 2 1, 3) := by decide +kernel
theorem d_M_takeOver_68 : decode prog_8_method_4_code 68 = .ok (.goto (-49), 3) := by decide +kernel
theorem d_M_takeOver_71 : decode prog_8_method_4_code 71 = .ok (.return_, 1) := by decide +kernel
theorem d_M_produce_0 : decode prog_8_method_10_code 0 = .ok (.aload_n 0, 1) := by decide +kernel
theorem d_M_produce_1 : decode prog_8_method_10_code 1 = .ok (.iload_n 1, 1) := by decide +kernel
theorem d_M_produce_2 : decode prog_8_method_10_code 2 = .ok (.invokevirtual 123, 3) := by decide +kernel
theorem d_M_produce_5 : decode prog_8_method_10_code 5 = .ok (.ifCond .eq 13, 3) := by decide +kernel
theorem d_M_produce_8 : decode prog_8_method_10_code 8 = .ok (.aload_n 0, 1) := by decide +kernel
theorem d_M_produce_9 : decode prog_8_method_10_code 9 = .ok (.iload_n 1, 1) := by decide +kernel
theorem d_M_produce_10 : decode prog_8_method_10_code 10 = .ok (.iload_n 2, 1) := by decide +kernel
theorem d_M_produce_11 : decode prog_8_method_10_code 11 = .ok (.iconst 0, 1) := by decide +kernel
theorem d_M_produce_12 : decode prog_8_method_10_code 12 = .ok (.invokevirtual 126, 3) := by decide +kernel
theorem d_M_produce_15 : decode prog_8_method_10_code 15 = .ok (.goto 4, 3) := by decide +kernel
theorem d_M_produce_18 : decode prog_8_method_10_code 18 = .ok (.iconst (-1), 1) := by decide +kernel
theorem d_M_produce_19 : decode prog_8_method_10_code 19 = .ok (.ireturn, 1) := by decide +kernel
theorem d_M_leads_0 : decode prog_8_method_3_code 0 = .ok (.iload_n 1, 1) := by decide +kernel
theorem d_M_leads_1 : decode prog_8_method_3_code 1 = .ok (.invokestatic 106, 3) := by decide +kernel
theorem d_M_leads_4 : decode prog_8_method_3_code 4 = .ok (.ifCond .eq 26, 3) := by decide +kernel
theorem d_M_leads_7 : decode prog_8_method_3_code 7 = .ok (.aload_n 0, 1) := by decide +kernel
theorem d_M_leads_8 : decode prog_8_method_3_code 8 = .ok (.getfield 39, 3) := by decide +kernel
theorem d_M_leads_11 : decode prog_8_method_3_code 11 = .ok (.iload_n 1, 1) := by decide +kernel
theorem d_M_leads_12 : decode prog_8_method_3_code 12 = .ok (.baload, 1) := by decide +kernel
theorem d_M_leads_13 : decode prog_8_method_3_code 13 = .ok (.ifCond .eq 17, 3) := by decide +kernel
theorem d_M_leads_16 : decode prog_8_method_3_code 16 = .ok (.aload_n 0, 1) := by decide +kernel
theorem d_M_leads_17 : decode prog_8_method_3_code 17 = .ok (.getfield 45, 3) := by decide +kernel
theorem d_M_leads_20 : decode prog_8_method_3_code 20 = .ok (.iload_n 1, 1) := by decide +kernel
theorem d_M_leads_21 : decode prog_8_method_3_code 21 = .ok (.iaload, 1) := by decide +kernel
theorem d_M_leads_22 : decode prog_8_method_3_code 22 = .ok (.iload_n 1, 1) := by decide +kernel
theorem d_M_leads_23 : decode prog_8_method_3_code 23 = .ok (.if_icmp .ne 7, 3) := by decide +kernel
theorem d_M_leads_26 : decode prog_8_method_3_code 26 = .ok (.iconst 1, 1) := by decide +kernel
theorem d_M_leads_27 : decode prog_8_method_3_code 27 = .ok (.goto 4, 3) := by decide +kernel
theorem d_M_leads_30 : decode prog_8_method_3_code 30 = .ok (.iconst 0, 1) := by decide +kernel
theorem d_M_leads_31 : decode prog_8_method_3_code 31 = .ok (.ireturn, 1) := by decide +kernel
theorem d_M_isBroker_0 : decode prog_8_method_2_code 0 = .ok (.iload_n 0, 1) := by decide +kernel
theorem d_M_isBroker_1 : decode prog_8_method_2_code 1 = .ok (.ifCond .lt 12, 3) := by decide +kernel
theorem d_M_isBroker_4 : decode prog_8_method_2_code 4 = .ok (.iload_n 0, 1) := by decide +kernel
theorem d_M_isBroker_5 : decode prog_8_method_2_code 5 = .ok (.iconst 4, 1) := by decide +kernel
theorem d_M_isBroker_6 : decode prog_8_method_2_code 6 = .ok (.if_icmp .ge 7, 3) := by decide +kernel
theorem d_M_isBroker_9 : decode prog_8_method_2_code 9 = .ok (.iconst 1, 1) := by decide +kernel
theorem d_M_isBroker_10 : decode prog_8_method_2_code 10 = .ok (.goto 4, 3) := by decide +kernel
theorem d_M_isBroker_13 : decode prog_8_method_2_code 13 = .ok (.iconst 0, 1) := by decide +kernel
theorem d_M_isBroker_14 : decode prog_8_method_2_code 14 = .ok (.ireturn, 1) := by decide +kernel
theorem d_M_append_0 : decode prog_8_method_9_code 0 = .ok (.aload_n 0, 1) := by decide +kernel
theorem d_M_append_1 : decode prog_8_method_9_code 1 = .ok (.getfield 21, 3) := by decide +kernel
theorem d_M_append_4 : decode prog_8_method_9_code 4 = .ok (.aload_n 0, 1) := by decide +kernel
theorem d_M_append_5 : decode prog_8_method_9_code 5 = .ok (.getfield 33, 3) := by decide +kernel
theorem d_M_append_8 : decode prog_8_method_9_code 8 = .ok (.iload_n 1, 1) := by decide +kernel
theorem d_M_append_9 : decode prog_8_method_9_code 9 = .ok (.iaload, 1) := by decide +kernel
theorem d_M_append_10 : decode prog_8_method_9_code 10 = .ok (.iaload, 1) := by decide +kernel
theorem d_M_append_11 : decode prog_8_method_9_code 11 = .ok (.bipush 40, 2) := by decide +kernel
theorem d_M_append_13 : decode prog_8_method_9_code 13 = .ok (.if_icmp .lt 6, 3) := by decide +kernel
theorem d_M_append_16 : decode prog_8_method_9_code 16 = .ok (.bipush (-2), 2) := by decide +kernel
theorem d_M_append_18 : decode prog_8_method_9_code 18 = .ok (.ireturn, 1) := by decide +kernel
theorem d_M_append_19 : decode prog_8_method_9_code 19 = .ok (.aload_n 0, 1) := by decide +kernel
theorem d_M_append_20 : decode prog_8_method_9_code 20 = .ok (.iload_n 1, 1) := by decide +kernel
theorem d_M_append_21 : decode prog_8_method_9_code 21 = .ok (.invokevirtual 113, 3) := by decide +kernel
theorem d_M_append_24 : decode prog_8_method_9_code 24 = .ok (.aload_n 0, 1) := by decide +kernel
theorem d_M_append_25 : decode prog_8_method_9_code 25 = .ok (.getfield 99, 3) := by decide +kernel
theorem d_M_append_28 : decode prog_8_method_9_code 28 = .ok (.if_icmp .ge 6, 3) := by decide +kernel
theorem d_M_append_31 : decode prog_8_method_9_code 31 = .ok (.bipush (-3), 2) := by decide +kernel
theorem d_M_append_33 : decode prog_8_method_9_code 33 = .ok (.ireturn, 1) := by decide +kernel
theorem d_M_append_34 : decode prog_8_method_9_code 34 = .ok (.aload_n 0, 1) := by decide +kernel
theorem d_M_append_35 : decode prog_8_method_9_code 35 = .ok (.dup, 1) := by decide +kernel
theorem d_M_append_36 : decode prog_8_method_9_code 36 = .ok (.getfield 117, 3) := by decide +kernel
theorem d_M_append_39 : decode prog_8_method_9_code 39 = .ok (.iconst 1, 1) := by decide +kernel
theorem d_M_append_40 : decode prog_8_method_9_code 40 = .ok (.iadd, 1) := by decide +kernel
theorem d_M_append_41 : decode prog_8_method_9_code 41 = .ok (.putfield 117, 3) := by decide +kernel
theorem d_M_append_44 : decode prog_8_method_9_code 44 = .ok (.aload_n 0, 1) := by decide +kernel
theorem d_M_append_45 : decode prog_8_method_9_code 45 = .ok (.getfield 17, 3) := by decide +kernel
theorem d_M_append_48 : decode prog_8_method_9_code 48 = .ok (.aload_n 0, 1) := by decide +kernel
theorem d_M_append_49 : decode prog_8_method_9_code 49 = .ok (.getfield 117, 3) := by decide +kernel
theorem d_M_append_52 : decode prog_8_method_9_code 52 = .ok (.aload_n 0, 1) := by decide +kernel
theorem d_M_append_53 : decode prog_8_method_9_code 53 = .ok (.getfield 33, 3) := by decide +kernel
theorem d_M_append_56 : decode prog_8_method_9_code 56 = .ok (.iload_n 1, 1) := by decide +kernel
theorem d_M_append_57 : decode prog_8_method_9_code 57 = .ok (.iaload, 1) := by decide +kernel
theorem d_M_append_58 : decode prog_8_method_9_code 58 = .ok (.iastore, 1) := by decide +kernel
theorem d_M_append_59 : decode prog_8_method_9_code 59 = .ok (.aload_n 0, 1) := by decide +kernel
theorem d_M_append_60 : decode prog_8_method_9_code 60 = .ok (.getfield 21, 3) := by decide +kernel
theorem d_M_append_63 : decode prog_8_method_9_code 63 = .ok (.aload_n 0, 1) := by decide +kernel
theorem d_M_append_64 : decode prog_8_method_9_code 64 = .ok (.getfield 117, 3) := by decide +kernel
theorem d_M_append_67 : decode prog_8_method_9_code 67 = .ok (.aload_n 0, 1) := by decide +kernel
theorem d_M_append_68 : decode prog_8_method_9_code 68 = .ok (.getfield 21, 3) := by decide +kernel
theorem d_M_append_71 : decode prog_8_method_9_code 71 = .ok (.aload_n 0, 1) := by decide +kernel
theorem d_M_append_72 : decode prog_8_method_9_code 72 = .ok (.getfield 33, 3) := by decide +kernel
theorem d_M_append_75 : decode prog_8_method_9_code 75 = .ok (.iload_n 1, 1) := by decide +kernel
theorem d_M_append_76 : decode prog_8_method_9_code 76 = .ok (.iaload, 1) := by decide +kernel
theorem d_M_append_77 : decode prog_8_method_9_code 77 = .ok (.iaload, 1) := by decide +kernel
theorem d_M_append_78 : decode prog_8_method_9_code 78 = .ok (.iconst 1, 1) := by decide +kernel
theorem d_M_append_79 : decode prog_8_method_9_code 79 = .ok (.iadd, 1) := by decide +kernel
theorem d_M_append_80 : decode prog_8_method_9_code 80 = .ok (.iastore, 1) := by decide +kernel
theorem d_M_append_81 : decode prog_8_method_9_code 81 = .ok (.aload_n 0, 1) := by decide +kernel
theorem d_M_append_82 : decode prog_8_method_9_code 82 = .ok (.getfield 24, 3) := by decide +kernel
theorem d_M_append_85 : decode prog_8_method_9_code 85 = .ok (.aload_n 0, 1) := by decide +kernel
theorem d_M_append_86 : decode prog_8_method_9_code 86 = .ok (.getfield 117, 3) := by decide +kernel
theorem d_M_append_89 : decode prog_8_method_9_code 89 = .ok (.aload_n 0, 1) := by decide +kernel
theorem d_M_append_90 : decode prog_8_method_9_code 90 = .ok (.getfield 42, 3) := by decide +kernel
theorem d_M_append_93 : decode prog_8_method_9_code 93 = .ok (.iload_n 1, 1) := by decide +kernel
theorem d_M_append_94 : decode prog_8_method_9_code 94 = .ok (.iaload, 1) := by decide +kernel
theorem d_M_append_95 : decode prog_8_method_9_code 95 = .ok (.iastore, 1) := by decide +kernel
theorem d_M_append_96 : decode prog_8_method_9_code 96 = .ok (.aload_n 0, 1) := by decide +kernel
theorem d_M_append_97 : decode prog_8_method_9_code 97 = .ok (.getfield 27, 3) := by decide +kernel
theorem d_M_append_100 : decode prog_8_method_9_code 100 = .ok (.aload_n 0, 1) := by decide +kernel
theorem d_M_append_101 : decode prog_8_method_9_code 101 = .ok (.getfield 117, 3) := by decide +kernel
theorem d_M_append_104 : decode prog_8_method_9_code 104 = .ok (.iload_n 2, 1) := by decide +kernel
theorem d_M_append_105 : decode prog_8_method_9_code 105 = .ok (.iastore, 1) := by decide +kernel
theorem d_M_append_106 : decode prog_8_method_9_code 106 = .ok (.aload_n 0, 1) := by decide +kernel
theorem d_M_append_107 : decode prog_8_method_9_code 107 = .ok (.getfield 30, 3) := by decide +kernel
theorem d_M_append_110 : decode prog_8_method_9_code 110 = .ok (.aload_n 0, 1) := by decide +kernel
theorem d_M_append_111 : decode prog_8_method_9_code 111 = .ok (.getfield 117, 3) := by decide +kernel
theorem d_M_append_114 : decode prog_8_method_9_code 114 = .ok (.iload_n 3, 1) := by decide +kernel
theorem d_M_append_115 : decode prog_8_method_9_code 115 = .ok (.bastore, 1) := by decide +kernel
theorem d_M_append_116 : decode prog_8_method_9_code 116 = .ok (.aload_n 0, 1) := by decide +kernel
theorem d_M_append_117 : decode prog_8_method_9_code 117 = .ok (.getfield 33, 3) := by decide +kernel
theorem d_M_append_120 : decode prog_8_method_9_code 120 = .ok (.iload_n 1, 1) := by decide +kernel
theorem d_M_append_121 : decode prog_8_method_9_code 121 = .ok (.aload_n 0, 1) := by decide +kernel
theorem d_M_append_122 : decode prog_8_method_9_code 122 = .ok (.getfield 117, 3) := by decide +kernel
theorem d_M_append_125 : decode prog_8_method_9_code 125 = .ok (.iastore, 1) := by decide +kernel
theorem d_M_append_126 : decode prog_8_method_9_code 126 = .ok (.aload_n 0, 1) := by decide +kernel
theorem d_M_append_127 : decode prog_8_method_9_code 127 = .ok (.iload_n 1, 1) := by decide +kernel
theorem d_M_append_128 : decode prog_8_method_9_code 128 = .ok (.invokevirtual 120, 3) := by decide +kernel
theorem d_M_append_131 : decode prog_8_method_9_code 131 = .ok (.aload_n 0, 1) := by decide +kernel
theorem d_M_append_132 : decode prog_8_method_9_code 132 = .ok (.getfield 21, 3) := by decide +kernel
theorem d_M_append_135 : decode prog_8_method_9_code 135 = .ok (.aload_n 0, 1) := by decide +kernel
theorem d_M_append_136 : decode prog_8_method_9_code 136 = .ok (.getfield 117, 3) := by decide +kernel
theorem d_M_append_139 : decode prog_8_method_9_code 139 = .ok (.iaload, 1) := by decide +kernel
theorem d_M_append_140 : decode prog_8_method_9_code 140 = .ok (.iconst 1, 1) := by decide +kernel
theorem d_M_append_141 : decode prog_8_method_9_code 141 = .ok (.isub, 1) := by decide +kernel
theorem d_M_append_142 : decode prog_8_method_9_code 142 = .ok (.ireturn, 1) := by decide +kernel
theorem d_M_syncSize_0 : decode prog_8_method_5_code 0 = .ok (.iconst 0, 1) := by decide +kernel
theorem d_M_syncSize_1 : decode prog_8_method_5_code 1 = .ok (.istore_n 2, 1) := by decide +kernel
theorem d_M_syncSize_2 : decode prog_8_method_5_code 2 = .ok (.iconst 0, 1) := by decide +kernel
theorem d_M_syncSize_3 : decode prog_8_method_5_code 3 = .ok (.istore_n 3, 1) := by decide +kernel
theorem d_M_syncSize_4 : decode prog_8_method_5_code 4 = .ok (.iload_n 3, 1) := by decide +kernel
theorem d_M_syncSize_5 : decode prog_8_method_5_code 5 = .ok (.iconst 4, 1) := by decide +kernel
theorem d_M_syncSize_6 : decode prog_8_method_5_code 6 = .ok (.if_icmp .ge 30, 3) := by decide +kernel
theorem d_M_syncSize_9 : decode prog_8_method_5_code 9 = .ok (.iload_n 2, 1) := by decide +kernel
theorem d_M_syncSize_10 : decode prog_8_method_5_code 10 = .ok (.aload_n 0, 1) := by decide +kernel
theorem d_M_syncSize_11 : decode prog_8_method_5_code 11 = .ok (.getfield 54, 3) := by decide +kernel
theorem d_M_syncSize_14 : decode prog_8_method_5_code 14 = .ok (.iconst 4, 1) := by decide +kernel
theorem d_M_syncSize_15 : decode prog_8_method_5_code 15 = .ok (.iload_n 1, 1) := by decide +kernel
theorem d_M_syncSize_16 : decode prog_8_method_5_code 16 = .ok (.imul, 1) := by decide +kernel
theorem d_M_syncSize_17 : decode prog_8_method_5_code 17 = .ok (.iload_n 3, 1) := by decide +kernel
theorem d_M_syncSize_18 : decode prog_8_method_5_code 18 = .ok (.iadd, 1) := by decide +kernel
theorem d_M_syncSize_19 : decode prog_8_method_5_code 19 = .ok (.baload, 1) := by decide +kernel
theorem d_M_syncSize_20 : decode prog_8_method_5_code 20 = .ok (.ifCond .eq 7, 3) := by decide +kernel
theorem d_M_syncSize_23 : decode prog_8_method_5_code 23 = .ok (.iconst 1, 1) := by decide +kernel
theorem d_M_syncSize_24 : decode prog_8_method_5_code 24 = .ok (.goto 4, 3) := by decide +kernel
theorem d_M_syncSize_27 : decode prog_8_method_5_code 27 = .ok (.iconst 0, 1) := by decide +kernel
theorem d_M_syncSize_28 : decode prog_8_method_5_code 28 = .ok (.iadd, 1) := by decide +kernel
theorem d_M_syncSize_29 : decode prog_8_method_5_code 29 = .ok (.istore_n 2, 1) := by decide +kernel
theorem d_M_syncSize_30 : decode prog_8_method_5_code 30 = .ok (.iinc 3 1, 3) := by decide +kernel
theorem d_M_syncSize_33 : decode prog_8_method_5_code 33 = .ok (.goto (-29), 3) := by decide +kernel
theorem d_M_syncSize_36 : decode prog_8_method_5_code 36 = .ok (.iload_n 2, 1) := by decide +kernel
theorem d_M_syncSize_37 : decode prog_8_method_5_code 37 = .ok (.ireturn, 1) := by decide +kernel
theorem d_M_rise_0 : decode prog_8_method_6_code 0 = .ok (.aload_n 0, 1) := by decide +kernel
theorem d_M_rise_1 : decode prog_8_method_6_code 1 = .ok (.getfield 21, 3) := by decide +kernel
theorem d_M_rise_4 : decode prog_8_method_6_code 4 = .ok (.aload_n 0, 1) := by decide +kernel
theorem d_M_rise_5 : decode prog_8_method_6_code 5 = .ok (.getfield 33, 3) := by decide +kernel
theorem d_M_rise_8 : decode prog_8_method_6_code 8 = .ok (.iload_n 1, 1) := by decide +kernel
theorem d_M_rise_9 : decode prog_8_method_6_code 9 = .ok (.iaload, 1) := by decide +kernel
theorem d_M_rise_10 : decode prog_8_method_6_code 10 = .ok (.iaload, 1) := by decide +kernel
theorem d_M_rise_11 : decode prog_8_method_6_code 11 = .ok (.istore_n 2, 1) := by decide +kernel
theorem d_M_rise_12 : decode prog_8_method_6_code 12 = .ok (.iconst 0, 1) := by decide +kernel
theorem d_M_rise_13 : decode prog_8_method_6_code 13 = .ok (.istore_n 3, 1) := by decide +kernel
theorem d_M_rise_14 : decode prog_8_method_6_code 14 = .ok (.iload_n 3, 1) := by decide +kernel
theorem d_M_rise_15 : decode prog_8_method_6_code 15 = .ok (.iconst 4, 1) := by decide +kernel
theorem d_M_rise_16 : decode prog_8_method_6_code 16 = .ok (.if_icmp .ge 68, 3) := by decide +kernel
theorem d_M_rise_19 : decode prog_8_method_6_code 19 = .ok (.iload_n 3, 1) := by decide +kernel
theorem d_M_rise_20 : decode prog_8_method_6_code 20 = .ok (.iload_n 1, 1) := by decide +kernel
theorem d_M_rise_21 : decode prog_8_method_6_code 21 = .ok (.if_icmp .eq 34, 3) := by decide +kernel
theorem d_M_rise_24 : decode prog_8_method_6_code 24 = .ok (.aload_n 0, 1) := by decide +kernel
theorem d_M_rise_25 : decode prog_8_method_6_code 25 = .ok (.getfield 54, 3) := by decide +kernel
theorem d_M_rise_28 : decode prog_8_method_6_code 28 = .ok (.iconst 4, 1) := by decide +kernel
theorem d_M_rise_29 : decode prog_8_method_6_code 29 = .ok (.iload_n 1, 1) := by decide +kernel
theorem d_M_rise_30 : decode prog_8_method_6_code 30 = .ok (.imul, 1) := by decide +kernel
theorem d_M_rise_31 : decode prog_8_method_6_code 31 = .ok (.iload_n 3, 1) := by decide +kernel
theorem d_M_rise_32 : decode prog_8_method_6_code 32 = .ok (.iadd, 1) := by decide +kernel
theorem d_M_rise_33 : decode prog_8_method_6_code 33 = .ok (.baload, 1) := by decide +kernel
theorem d_M_rise_34 : decode prog_8_method_6_code 34 = .ok (.ifCond .eq 21, 3) := by decide +kernel
theorem d_M_rise_37 : decode prog_8_method_6_code 37 = .ok (.aload_n 0, 1) := by decide +kernel
theorem d_M_rise_38 : decode prog_8_method_6_code 38 = .ok (.getfield 57, 3) := by decide +kernel
theorem d_M_rise_41 : decode prog_8_method_6_code 41 = .ok (.iconst 4, 1) := by decide +kernel
theorem d_M_rise_42 : decode prog_8_method_6_code 42 = .ok (.iload_n 1, 1) := by decide +kernel
theorem d_M_rise_43 : decode prog_8_method_6_code 43 = .ok (.imul, 1) := by decide +kernel
theorem d_M_rise_44 : decode prog_8_method_6_code 44 = .ok (.iload_n 3, 1) := by decide +kernel
theorem d_M_rise_45 : decode prog_8_method_6_code 45 = .ok (.iadd, 1) := by decide +kernel
theorem d_M_rise_46 : decode prog_8_method_6_code 46 = .ok (.iaload, 1) := by decide +kernel
theorem d_M_rise_47 : decode prog_8_method_6_code 47 = .ok (.iload_n 2, 1) := by decide +kernel
theorem d_M_rise_48 : decode prog_8_method_6_code 48 = .ok (.if_icmp .ge 7, 3) := by decide +kernel
theorem d_M_rise_51 : decode prog_8_method_6_code 51 = .ok (.iconst 1, 1) := by decide +kernel
theorem d_M_rise_52 : decode prog_8_method_6_code 52 = .ok (.goto 4, 3) := by decide +kernel
theorem d_M_rise_55 : decode prog_8_method_6_code 55 = .ok (.iconst 0, 1) := by decide +kernel
theorem d_M_rise_56 : decode prog_8_method_6_code 56 = .ok (.istore 4, 2) := by decide +kernel
theorem d_M_rise_58 : decode prog_8_method_6_code 58 = .ok (.iload 4, 2) := by decide +kernel
theorem d_M_rise_60 : decode prog_8_method_6_code 60 = .ok (.ifCond .eq 16, 3) := by decide +kernel
theorem d_M_rise_63 : decode prog_8_method_6_code 63 = .ok (.aload_n 0, 1) := by decide +kernel
theorem d_M_rise_64 : decode prog_8_method_6_code 64 = .ok (.getfield 57, 3) := by decide +kernel
theorem d_M_rise_67 : decode prog_8_method_6_code 67 = .ok (.iconst 4, 1) := by decide +kernel
theorem d_M_rise_68 : decode prog_8_method_6_code 68 = .ok (.iload_n 1, 1) := by decide +kernel
theorem d_M_rise_69 : decode prog_8_method_6_code 69 = .ok (.imul, 1) := by decide +kernel
theorem d_M_rise_70 : decode prog_8_method_6_code 70 = .ok (.iload_n 3, 1) := by decide +kernel
theorem d_M_rise_71 : decode prog_8_method_6_code 71 = .ok (.iadd, 1) := by decide +kernel
theorem d_M_rise_72 : decode prog_8_method_6_code 72 = .ok (.iaload, 1) := by decide +kernel
theorem d_M_rise_73 : decode prog_8_method_6_code 73 = .ok (.goto 4, 3) := by decide +kernel
theorem d_M_rise_76 : decode prog_8_method_6_code 76 = .ok (.iload_n 2, 1) := by decide +kernel
theorem d_M_rise_77 : decode prog_8_method_6_code 77 = .ok (.istore_n 2, 1) := by decide +kernel
theorem d_M_rise_78 : decode prog_8_method_6_code 78 = .ok (.iinc 3 1, 3) := by decide +kernel
theorem d_M_rise_81 : decode prog_8_method_6_code 81 = .ok (.goto (-67), 3) := by decide +kernel
theorem d_M_rise_84 : decode prog_8_method_6_code 84 = .ok (.aload_n 0, 1) := by decide +kernel
theorem d_M_rise_85 : decode prog_8_method_6_code 85 = .ok (.getfield 36, 3) := by decide +kernel
theorem d_M_rise_88 : decode prog_8_method_6_code 88 = .ok (.iload_n 1, 1) := by decide +kernel
theorem d_M_rise_89 : decode prog_8_method_6_code 89 = .ok (.iload_n 2, 1) := by decide +kernel
theorem d_M_rise_90 : decode prog_8_method_6_code 90 = .ok (.aload_n 0, 1) := by decide +kernel
theorem d_M_rise_91 : decode prog_8_method_6_code 91 = .ok (.getfield 36, 3) := by decide +kernel
theorem d_M_rise_94 : decode prog_8_method_6_code 94 = .ok (.iload_n 1, 1) := by decide +kernel
theorem d_M_rise_95 : decode prog_8_method_6_code 95 = .ok (.iaload, 1) := by decide +kernel
theorem d_M_rise_96 : decode prog_8_method_6_code 96 = .ok (.if_icmp .le 7, 3) := by decide +kernel
theorem d_M_rise_99 : decode prog_8_method_6_code 99 = .ok (.iload_n 2, 1) := by decide +kernel
theorem d_M_rise_100 : decode prog_8_method_6_code 100 = .ok (.goto 9, 3) := by decide +kernel
theorem d_M_rise_103 : decode prog_8_method_6_code 103 = .ok (.aload_n 0, 1) := by decide +kernel
theorem d_M_rise_104 : decode prog_8_method_6_code 104 = .ok (.getfield 36, 3) := by decide +kernel
theorem d_M_rise_107 : decode prog_8_method_6_code 107 = .ok (.iload_n 1, 1) := by decide +kernel
theorem d_M_rise_108 : decode prog_8_method_6_code 108 = .ok (.iaload, 1) := by decide +kernel
theorem d_M_rise_109 : decode prog_8_method_6_code 109 = .ok (.iastore, 1) := by decide +kernel
theorem d_M_rise_110 : decode prog_8_method_6_code 110 = .ok (.return_, 1) := by decide +kernel
theorem d_M_commit_0 : decode prog_8_method_11_code 0 = .ok (.aload_n 0, 1) := by decide +kernel
theorem d_M_commit_1 : decode prog_8_method_11_code 1 = .ok (.iload_n 1, 1) := by decide +kernel
theorem d_M_commit_2 : decode prog_8_method_11_code 2 = .ok (.invokevirtual 123, 3) := by decide +kernel
theorem d_M_commit_5 : decode prog_8_method_11_code 5 = .ok (.ifCond .ne 5, 3) := by decide +kernel
theorem d_M_commit_8 : decode prog_8_method_11_code 8 = .ok (.iconst (-1), 1) := by decide +kernel
theorem d_M_commit_9 : decode prog_8_method_11_code 9 = .ok (.ireturn, 1) := by decide +kernel
theorem d_M_commit_10 : decode prog_8_method_11_code 10 = .ok (.iload_n 2, 1) := by decide +kernel
theorem d_M_commit_11 : decode prog_8_method_11_code 11 = .ok (.ifCond .lt 13, 3) := by decide +kernel
theorem d_M_commit_14 : decode prog_8_method_11_code 14 = .ok (.iload_n 2, 1) := by decide +kernel
theorem d_M_commit_15 : decode prog_8_method_11_code 15 = .ok (.aload_n 0, 1) := by decide +kernel
theorem d_M_commit_16 : decode prog_8_method_11_code 16 = .ok (.getfield 36, 3) := by decide +kernel
theorem d_M_commit_19 : decode prog_8_method_11_code 19 = .ok (.iload_n 1, 1) := by decide +kernel
theorem d_M_commit_20 : decode prog_8_method_11_code 20 = .ok (.iaload, 1) := by decide +kernel
theorem d_M_commit_21 : decode prog_8_method_11_code 21 = .ok (.if_icmp .le 7, 3) := by decide +kernel
theorem d_M_commit_24 : decode prog_8_method_11_code 24 = .ok (.iconst (-1), 1) := by decide +kernel
theorem d_M_commit_25 : decode prog_8_method_11_code 25 = .ok (.goto 10, 3) := by decide +kernel
theorem d_M_commit_28 : decode prog_8_method_11_code 28 = .ok (.aload_n 0, 1) := by decide +kernel
theorem d_M_commit_29 : decode prog_8_method_11_code 29 = .ok (.iload_n 1, 1) := by decide +kernel
theorem d_M_commit_30 : decode prog_8_method_11_code 30 = .ok (.iload_n 2, 1) := by decide +kernel
theorem d_M_commit_31 : decode prog_8_method_11_code 31 = .ok (.iconst 1, 1) := by decide +kernel
theorem d_M_commit_32 : decode prog_8_method_11_code 32 = .ok (.invokevirtual 126, 3) := by decide +kernel
theorem d_M_commit_35 : decode prog_8_method_11_code 35 = .ok (.ireturn, 1) := by decide +kernel
theorem d_M_readable_0 : decode prog_8_method_13_code 0 = .ok (.aload_n 0, 1) := by decide +kernel
theorem d_M_readable_1 : decode prog_8_method_13_code 1 = .ok (.iload_n 1, 1) := by decide +kernel
theorem d_M_readable_2 : decode prog_8_method_13_code 2 = .ok (.iload_n 2, 1) := by decide +kernel
theorem d_M_readable_3 : decode prog_8_method_13_code 3 = .ok (.invokevirtual 134, 3) := by decide +kernel
theorem d_M_readable_6 : decode prog_8_method_13_code 6 = .ok (.istore_n 3, 1) := by decide +kernel
theorem d_M_readable_7 : decode prog_8_method_13_code 7 = .ok (.aload_n 0, 1) := by decide +kernel
theorem d_M_readable_8 : decode prog_8_method_13_code 8 = .ok (.iload_n 1, 1) := by decide +kernel
theorem d_M_readable_9 : decode prog_8_method_13_code 9 = .ok (.invokevirtual 123, 3) := by decide +kernel
theorem d_M_readable_12 : decode prog_8_method_13_code 12 = .ok (.ifCond .eq 17, 3) := by decide +kernel
theorem d_M_readable_15 : decode prog_8_method_13_code 15 = .ok (.iload_n 3, 1) := by decide +kernel
theorem d_M_readable_16 : decode prog_8_method_13_code 16 = .ok (.ifCond .eq 13, 3) := by decide +kernel
theorem d_M_readable_19 : decode prog_8_method_13_code 19 = .ok (.iload_n 2, 1) := by decide +kernel
theorem d_M_readable_20 : decode prog_8_method_13_code 20 = .ok (.aload_n 0, 1) := by decide +kernel
theorem d_M_readable_21 : decode prog_8_method_13_code 21 = .ok (.getfield 36, 3) := by decide +kernel
theorem d_M_readable_24 : decode prog_8_method_13_code 24 = .ok (.iload_n 1, 1) := by decide +kernel
theorem d_M_readable_25 : decode prog_8_method_13_code 25 = .ok (.iaload, 1) := by decide +kernel
theorem d_M_readable_26 : decode prog_8_method_13_code 26 = .ok (.if_icmp .lt 5, 3) := by decide +kernel
theorem d_M_readable_29 : decode prog_8_method_13_code 29 = .ok (.iconst 0, 1) := by decide +kernel
theorem d_M_readable_30 : decode prog_8_method_13_code 30 = .ok (.ireturn, 1) := by decide +kernel
theorem d_M_readable_31 : decode prog_8_method_13_code 31 = .ok (.aload_n 0, 1) := by decide +kernel
theorem d_M_readable_32 : decode prog_8_method_13_code 32 = .ok (.getfield 30, 3) := by decide +kernel
theorem d_M_readable_35 : decode prog_8_method_13_code 35 = .ok (.iload_n 3, 1) := by decide +kernel
theorem d_M_readable_36 : decode prog_8_method_13_code 36 = .ok (.baload, 1) := by decide +kernel
theorem d_M_readable_37 : decode prog_8_method_13_code 37 = .ok (.ifCond .eq 7, 3) := by decide +kernel
theorem d_M_readable_40 : decode prog_8_method_13_code 40 = .ok (.iconst 2, 1) := by decide +kernel
theorem d_M_readable_41 : decode prog_8_method_13_code 41 = .ok (.goto 4, 3) := by decide +kernel
theorem d_M_readable_44 : decode prog_8_method_13_code 44 = .ok (.iconst 1, 1) := by decide +kernel
theorem d_M_readable_45 : decode prog_8_method_13_code 45 = .ok (.ireturn, 1) := by decide +kernel
theorem d_M_recordAt_0 : decode prog_8_method_12_code 0 = .ok (.iload_n 1, 1) := by decide +kernel
theorem d_M_recordAt_1 : decode prog_8_method_12_code 1 = .ok (.invokestatic 106, 3) := by decide +kernel
theorem d_M_recordAt_4 : decode prog_8_method_12_code 4 = .ok (.ifCond .eq 7, 3) := by decide +kernel
theorem d_M_recordAt_7 : decode prog_8_method_12_code 7 = .ok (.iload_n 2, 1) := by decide +kernel
theorem d_M_recordAt_8 : decode prog_8_method_12_code 8 = .ok (.ifCond .ge 5, 3) := by decide +kernel
theorem d_M_recordAt_11 : decode prog_8_method_12_code 11 = .ok (.iconst 0, 1) := by decide +kernel
theorem d_M_recordAt_12 : decode prog_8_method_12_code 12 = .ok (.ireturn, 1) := by decide +kernel
theorem d_M_recordAt_13 : decode prog_8_method_12_code 13 = .ok (.iload_n 2, 1) := by decide +kernel
theorem d_M_recordAt_14 : decode prog_8_method_12_code 14 = .ok (.aload_n 0, 1) := by decide +kernel
theorem d_M_recordAt_15 : decode prog_8_method_12_code 15 = .ok (.getfield 21, 3) := by decide +kernel
theorem d_M_recordAt_18 : decode prog_8_method_12_code 18 = .ok (.aload_n 0, 1) := by decide +kernel
theorem d_M_recordAt_19 : decode prog_8_method_12_code 19 = .ok (.getfield 33, 3) := by decide +kernel
theorem d_M_recordAt_22 : decode prog_8_method_12_code 22 = .ok (.iload_n 1, 1) := by decide +kernel
theorem d_M_recordAt_23 : decode prog_8_method_12_code 23 = .ok (.iaload, 1) := by decide +kernel
theorem d_M_recordAt_24 : decode prog_8_method_12_code 24 = .ok (.iaload, 1) := by decide +kernel
theorem d_M_recordAt_25 : decode prog_8_method_12_code 25 = .ok (.if_icmp .ge 14, 3) := by decide +kernel
theorem d_M_recordAt_28 : decode prog_8_method_12_code 28 = .ok (.aload_n 0, 1) := by decide +kernel
theorem d_M_recordAt_29 : decode prog_8_method_12_code 29 = .ok (.iload_n 1, 1) := by decide +kernel
theorem d_M_recordAt_30 : decode prog_8_method_12_code 30 = .ok (.iload_n 2, 1) := by decide +kernel
theorem d_M_recordAt_31 : decode prog_8_method_12_code 31 = .ok (.iconst 1, 1) := by decide +kernel
theorem d_M_recordAt_32 : decode prog_8_method_12_code 32 = .ok (.iadd, 1) := by decide +kernel
theorem d_M_recordAt_33 : decode prog_8_method_12_code 33 = .ok (.invokevirtual 130, 3) := by decide +kernel
theorem d_M_recordAt_36 : decode prog_8_method_12_code 36 = .ok (.goto 4, 3) := by decide +kernel
theorem d_M_recordAt_39 : decode prog_8_method_12_code 39 = .ok (.iconst 0, 1) := by decide +kernel
theorem d_M_recordAt_40 : decode prog_8_method_12_code 40 = .ok (.ireturn, 1) := by decide +kernel
theorem d_M_upTo_0 : decode prog_8_method_7_code 0 = .ok (.aload_n 0, 1) := by decide +kernel
theorem d_M_upTo_1 : decode prog_8_method_7_code 1 = .ok (.getfield 33, 3) := by decide +kernel
theorem d_M_upTo_4 : decode prog_8_method_7_code 4 = .ok (.iload_n 1, 1) := by decide +kernel
theorem d_M_upTo_5 : decode prog_8_method_7_code 5 = .ok (.iaload, 1) := by decide +kernel
theorem d_M_upTo_6 : decode prog_8_method_7_code 6 = .ok (.istore_n 3, 1) := by decide +kernel
theorem d_M_upTo_7 : decode prog_8_method_7_code 7 = .ok (.aload_n 0, 1) := by decide +kernel
theorem d_M_upTo_8 : decode prog_8_method_7_code 8 = .ok (.getfield 21, 3) := by decide +kernel
theorem d_M_upTo_11 : decode prog_8_method_7_code 11 = .ok (.iload_n 3, 1) := by decide +kernel
theorem d_M_upTo_12 : decode prog_8_method_7_code 12 = .ok (.iaload, 1) := by decide +kernel
theorem d_M_upTo_13 : decode prog_8_method_7_code 13 = .ok (.iload_n 2, 1) := by decide +kernel
theorem d_M_upTo_14 : decode prog_8_method_7_code 14 = .ok (.if_icmp .le 13, 3) := by decide +kernel
theorem d_M_upTo_17 : decode prog_8_method_7_code 17 = .ok (.aload_n 0, 1) := by decide +kernel
theorem d_M_upTo_18 : decode prog_8_method_7_code 18 = .ok (.getfield 17, 3) := by decide +kernel
theorem d_M_upTo_21 : decode prog_8_method_7_code 21 = .ok (.iload_n 3, 1) := by decide +kernel
theorem d_M_upTo_22 : decode prog_8_method_7_code 22 = .ok (.iaload, 1) := by decide +kernel
theorem d_M_upTo_23 : decode prog_8_method_7_code 23 = .ok (.istore_n 3, 1) := by decide +kernel
theorem d_M_upTo_24 : decode prog_8_method_7_code 24 = .ok (.goto (-17), 3) := by decide +kernel
theorem d_M_upTo_27 : decode prog_8_method_7_code 27 = .ok (.iload_n 3, 1) := by decide +kernel
theorem d_M_upTo_28 : decode prog_8_method_7_code 28 = .ok (.ireturn, 1) := by decide +kernel
theorem d_M_committed_0 : decode prog_8_method_14_code 0 = .ok (.aload_n 0, 1) := by decide +kernel
theorem d_M_committed_1 : decode prog_8_method_14_code 1 = .ok (.iload_n 1, 1) := by decide +kernel
theorem d_M_committed_2 : decode prog_8_method_14_code 2 = .ok (.invokevirtual 123, 3) := by decide +kernel
theorem d_M_committed_5 : decode prog_8_method_14_code 5 = .ok (.ifCond .ne 5, 3) := by decide +kernel
theorem d_M_committed_8 : decode prog_8_method_14_code 8 = .ok (.iconst (-1), 1) := by decide +kernel
theorem d_M_committed_9 : decode prog_8_method_14_code 9 = .ok (.ireturn, 1) := by decide +kernel
theorem d_M_committed_10 : decode prog_8_method_14_code 10 = .ok (.aload_n 0, 1) := by decide +kernel
theorem d_M_committed_11 : decode prog_8_method_14_code 11 = .ok (.iload_n 1, 1) := by decide +kernel
theorem d_M_committed_12 : decode prog_8_method_14_code 12 = .ok (.aload_n 0, 1) := by decide +kernel
theorem d_M_committed_13 : decode prog_8_method_14_code 13 = .ok (.getfield 36, 3) := by decide +kernel
theorem d_M_committed_16 : decode prog_8_method_14_code 16 = .ok (.iload_n 1, 1) := by decide +kernel
theorem d_M_committed_17 : decode prog_8_method_14_code 17 = .ok (.iaload, 1) := by decide +kernel
theorem d_M_committed_18 : decode prog_8_method_14_code 18 = .ok (.invokevirtual 130, 3) := by decide +kernel
theorem d_M_committed_21 : decode prog_8_method_14_code 21 = .ok (.istore_n 2, 1) := by decide +kernel
theorem d_M_committed_22 : decode prog_8_method_14_code 22 = .ok (.iload_n 2, 1) := by decide +kernel
theorem d_M_committed_23 : decode prog_8_method_14_code 23 = .ok (.ifCond .le 22, 3) := by decide +kernel
theorem d_M_committed_26 : decode prog_8_method_14_code 26 = .ok (.aload_n 0, 1) := by decide +kernel
theorem d_M_committed_27 : decode prog_8_method_14_code 27 = .ok (.getfield 30, 3) := by decide +kernel
theorem d_M_committed_30 : decode prog_8_method_14_code 30 = .ok (.iload_n 2, 1) := by decide +kernel
theorem d_M_committed_31 : decode prog_8_method_14_code 31 = .ok (.baload, 1) := by decide +kernel
theorem d_M_committed_32 : decode prog_8_method_14_code 32 = .ok (.ifCond .ne 13, 3) := by decide +kernel
theorem d_M_committed_35 : decode prog_8_method_14_code 35 = .ok (.aload_n 0, 1) := by decide +kernel
theorem d_M_committed_36 : decode prog_8_method_14_code 36 = .ok (.getfield 17, 3) := by decide +kernel
theorem d_M_committed_39 : decode prog_8_method_14_code 39 = .ok (.iload_n 2, 1) := by decide +kernel
theorem d_M_committed_40 : decode prog_8_method_14_code 40 = .ok (.iaload, 1) := by decide +kernel
theorem d_M_committed_41 : decode prog_8_method_14_code 41 = .ok (.istore_n 2, 1) := by decide +kernel
theorem d_M_committed_42 : decode prog_8_method_14_code 42 = .ok (.goto (-20), 3) := by decide +kernel
theorem d_M_committed_45 : decode prog_8_method_14_code 45 = .ok (.iload_n 2, 1) := by decide +kernel
theorem d_M_committed_46 : decode prog_8_method_14_code 46 = .ok (.ifCond .le 12, 3) := by decide +kernel
theorem d_M_committed_49 : decode prog_8_method_14_code 49 = .ok (.aload_n 0, 1) := by decide +kernel
theorem d_M_committed_50 : decode prog_8_method_14_code 50 = .ok (.getfield 27, 3) := by decide +kernel
theorem d_M_committed_53 : decode prog_8_method_14_code 53 = .ok (.iload_n 2, 1) := by decide +kernel
theorem d_M_committed_54 : decode prog_8_method_14_code 54 = .ok (.iaload, 1) := by decide +kernel
theorem d_M_committed_55 : decode prog_8_method_14_code 55 = .ok (.goto 4, 3) := by decide +kernel
theorem d_M_committed_58 : decode prog_8_method_14_code 58 = .ok (.iconst (-1), 1) := by decide +kernel
theorem d_M_committed_59 : decode prog_8_method_14_code 59 = .ok (.ireturn, 1) := by decide +kernel
theorem d_M_epochAt_0 : decode prog_8_method_15_code 0 = .ok (.aload_n 0, 1) := by decide +kernel
theorem d_M_epochAt_1 : decode prog_8_method_15_code 1 = .ok (.iload_n 1, 1) := by decide +kernel
theorem d_M_epochAt_2 : decode prog_8_method_15_code 2 = .ok (.iload_n 2, 1) := by decide +kernel
theorem d_M_epochAt_3 : decode prog_8_method_15_code 3 = .ok (.invokevirtual 134, 3) := by decide +kernel
theorem d_M_epochAt_6 : decode prog_8_method_15_code 6 = .ok (.istore_n 3, 1) := by decide +kernel
theorem d_M_epochAt_7 : decode prog_8_method_15_code 7 = .ok (.aload_n 0, 1) := by decide +kernel
theorem d_M_epochAt_8 : decode prog_8_method_15_code 8 = .ok (.getfield 30, 3) := by decide +kernel
theorem d_M_epochAt_11 : decode prog_8_method_15_code 11 = .ok (.iload_n 3, 1) := by decide +kernel
theorem d_M_epochAt_12 : decode prog_8_method_15_code 12 = .ok (.baload, 1) := by decide +kernel
theorem d_M_epochAt_13 : decode prog_8_method_15_code 13 = .ok (.ifCond .eq 13, 3) := by decide +kernel
theorem d_M_epochAt_16 : decode prog_8_method_15_code 16 = .ok (.aload_n 0, 1) := by decide +kernel
theorem d_M_epochAt_17 : decode prog_8_method_15_code 17 = .ok (.getfield 24, 3) := by decide +kernel
theorem d_M_epochAt_20 : decode prog_8_method_15_code 20 = .ok (.iload_n 3, 1) := by decide +kernel
theorem d_M_epochAt_21 : decode prog_8_method_15_code 21 = .ok (.iaload, 1) := by decide +kernel
theorem d_M_epochAt_22 : decode prog_8_method_15_code 22 = .ok (.ineg, 1) := by decide +kernel
theorem d_M_epochAt_23 : decode prog_8_method_15_code 23 = .ok (.goto 9, 3) := by decide +kernel
theorem d_M_epochAt_26 : decode prog_8_method_15_code 26 = .ok (.aload_n 0, 1) := by decide +kernel
theorem d_M_epochAt_27 : decode prog_8_method_15_code 27 = .ok (.getfield 24, 3) := by decide +kernel
theorem d_M_epochAt_30 : decode prog_8_method_15_code 30 = .ok (.iload_n 3, 1) := by decide +kernel
theorem d_M_epochAt_31 : decode prog_8_method_15_code 31 = .ok (.iaload, 1) := by decide +kernel
theorem d_M_epochAt_32 : decode prog_8_method_15_code 32 = .ok (.ireturn, 1) := by decide +kernel
theorem d_M_valueAt_0 : decode prog_8_method_16_code 0 = .ok (.aload_n 0, 1) := by decide +kernel
theorem d_M_valueAt_1 : decode prog_8_method_16_code 1 = .ok (.iload_n 1, 1) := by decide +kernel
theorem d_M_valueAt_2 : decode prog_8_method_16_code 2 = .ok (.iload_n 2, 1) := by decide +kernel
theorem d_M_valueAt_3 : decode prog_8_method_16_code 3 = .ok (.invokevirtual 134, 3) := by decide +kernel
theorem d_M_valueAt_6 : decode prog_8_method_16_code 6 = .ok (.istore_n 3, 1) := by decide +kernel
theorem d_M_valueAt_7 : decode prog_8_method_16_code 7 = .ok (.aload_n 0, 1) := by decide +kernel
theorem d_M_valueAt_8 : decode prog_8_method_16_code 8 = .ok (.getfield 27, 3) := by decide +kernel
theorem d_M_valueAt_11 : decode prog_8_method_16_code 11 = .ok (.iload_n 3, 1) := by decide +kernel
theorem d_M_valueAt_12 : decode prog_8_method_16_code 12 = .ok (.iaload, 1) := by decide +kernel
theorem d_M_valueAt_13 : decode prog_8_method_16_code 13 = .ok (.ireturn, 1) := by decide +kernel
theorem d_M_fetch_0 : decode prog_8_method_21_code 0 = .ok (.iload_n 1, 1) := by decide +kernel
theorem d_M_fetch_1 : decode prog_8_method_21_code 1 = .ok (.invokestatic 106, 3) := by decide +kernel
theorem d_M_fetch_4 : decode prog_8_method_21_code 4 = .ok (.ifCond .eq 11, 3) := by decide +kernel
theorem d_M_fetch_7 : decode prog_8_method_21_code 7 = .ok (.aload_n 0, 1) := by decide +kernel
theorem d_M_fetch_8 : decode prog_8_method_21_code 8 = .ok (.iload_n 1, 1) := by decide +kernel
theorem d_M_fetch_9 : decode prog_8_method_21_code 9 = .ok (.invokevirtual 123, 3) := by decide +kernel
theorem d_M_fetch_12 : decode prog_8_method_21_code 12 = .ok (.ifCond .eq 5, 3) := by decide +kernel
theorem d_M_fetch_15 : decode prog_8_method_21_code 15 = .ok (.iconst 0, 1) := by decide +kernel
theorem d_M_fetch_16 : decode prog_8_method_21_code 16 = .ok (.ireturn, 1) := by decide +kernel
theorem d_M_fetch_17 : decode prog_8_method_21_code 17 = .ok (.aload_n 0, 1) := by decide +kernel
theorem d_M_fetch_18 : decode prog_8_method_21_code 18 = .ok (.getfield 39, 3) := by decide +kernel
theorem d_M_fetch_21 : decode prog_8_method_21_code 21 = .ok (.iload_n 1, 1) := by decide +kernel
theorem d_M_fetch_22 : decode prog_8_method_21_code 22 = .ok (.baload, 1) := by decide +kernel
theorem d_M_fetch_23 : decode prog_8_method_21_code 23 = .ok (.ifCond .eq 12, 3) := by decide +kernel
theorem d_M_fetch_26 : decode prog_8_method_21_code 26 = .ok (.aload_n 0, 1) := by decide +kernel
theorem d_M_fetch_27 : decode prog_8_method_21_code 27 = .ok (.getfield 45, 3) := by decide +kernel
theorem d_M_fetch_30 : decode prog_8_method_21_code 30 = .ok (.iload_n 1, 1) := by decide +kernel
theorem d_M_fetch_31 : decode prog_8_method_21_code 31 = .ok (.iaload, 1) := by decide +kernel
theorem d_M_fetch_32 : decode prog_8_method_21_code 32 = .ok (.ifCond .ge 5, 3) := by decide +kernel
theorem d_M_fetch_35 : decode prog_8_method_21_code 35 = .ok (.iconst 0, 1) := by decide +kernel
theorem d_M_fetch_36 : decode prog_8_method_21_code 36 = .ok (.ireturn, 1) := by decide +kernel
theorem d_M_fetch_37 : decode prog_8_method_21_code 37 = .ok (.aload_n 0, 1) := by decide +kernel
theorem d_M_fetch_38 : decode prog_8_method_21_code 38 = .ok (.getfield 48, 3) := by decide +kernel
theorem d_M_fetch_41 : decode prog_8_method_21_code 41 = .ok (.iload_n 1, 1) := by decide +kernel
theorem d_M_fetch_42 : decode prog_8_method_21_code 42 = .ok (.dup2, 1) := by decide +kernel
theorem d_M_fetch_43 : decode prog_8_method_21_code 43 = .ok (.iaload, 1) := by decide +kernel
theorem d_M_fetch_44 : decode prog_8_method_21_code 44 = .ok (.iconst 1, 1) := by decide +kernel
theorem d_M_fetch_45 : decode prog_8_method_21_code 45 = .ok (.iadd, 1) := by decide +kernel
theorem d_M_fetch_46 : decode prog_8_method_21_code 46 = .ok (.iastore, 1) := by decide +kernel
theorem d_M_fetch_47 : decode prog_8_method_21_code 47 = .ok (.aload_n 0, 1) := by decide +kernel
theorem d_M_fetch_48 : decode prog_8_method_21_code 48 = .ok (.getfield 51, 3) := by decide +kernel
theorem d_M_fetch_51 : decode prog_8_method_21_code 51 = .ok (.iload_n 1, 1) := by decide +kernel
theorem d_M_fetch_52 : decode prog_8_method_21_code 52 = .ok (.iconst 1, 1) := by decide +kernel
theorem d_M_fetch_53 : decode prog_8_method_21_code 53 = .ok (.bastore, 1) := by decide +kernel
theorem d_M_fetch_54 : decode prog_8_method_21_code 54 = .ok (.aload_n 0, 1) := by decide +kernel
theorem d_M_fetch_55 : decode prog_8_method_21_code 55 = .ok (.iconst 0, 1) := by decide +kernel
theorem d_M_fetch_56 : decode prog_8_method_21_code 56 = .ok (.iload_n 1, 1) := by decide +kernel
theorem d_M_fetch_57 : decode prog_8_method_21_code 57 = .ok (.aload_n 0, 1) := by decide +kernel
theorem d_M_fetch_58 : decode prog_8_method_21_code 58 = .ok (.getfield 45, 3) := by decide +kernel
theorem d_M_fetch_61 : decode prog_8_method_21_code 61 = .ok (.iload_n 1, 1) := by decide +kernel
theorem d_M_fetch_62 : decode prog_8_method_21_code 62 = .ok (.iaload, 1) := by decide +kernel
theorem d_M_fetch_63 : decode prog_8_method_21_code 63 = .ok (.aload_n 0, 1) := by decide +kernel
theorem d_M_fetch_64 : decode prog_8_method_21_code 64 = .ok (.getfield 42, 3) := by decide +kernel
theorem d_M_fetch_67 : decode prog_8_method_21_code 67 = .ok (.iload_n 1, 1) := by decide +kernel
theorem d_M_fetch_68 : decode prog_8_method_21_code 68 = .ok (.iaload, 1) := by decide +kernel
theorem d_M_fetch_69 : decode prog_8_method_21_code 69 = .ok (.aload_n 0, 1) := by decide +kernel
theorem d_M_fetch_70 : decode prog_8_method_21_code 70 = .ok (.getfield 48, 3) := by decide +kernel
theorem d_M_fetch_73 : decode prog_8_method_21_code 73 = .ok (.iload_n 1, 1) := by decide +kernel
theorem d_M_fetch_74 : decode prog_8_method_21_code 74 = .ok (.iaload, 1) := by decide +kernel
theorem d_M_fetch_75 : decode prog_8_method_21_code 75 = .ok (.aload_n 0, 1) := by decide +kernel
theorem d_M_fetch_76 : decode prog_8_method_21_code 76 = .ok (.getfield 21, 3) := by decide +kernel
theorem d_M_fetch_79 : decode prog_8_method_21_code 79 = .ok (.aload_n 0, 1) := by decide +kernel
theorem d_M_fetch_80 : decode prog_8_method_21_code 80 = .ok (.getfield 33, 3) := by decide +kernel
theorem d_M_fetch_83 : decode prog_8_method_21_code 83 = .ok (.iload_n 1, 1) := by decide +kernel
theorem d_M_fetch_84 : decode prog_8_method_21_code 84 = .ok (.iaload, 1) := by decide +kernel
theorem d_M_fetch_85 : decode prog_8_method_21_code 85 = .ok (.iaload, 1) := by decide +kernel
theorem d_M_fetch_86 : decode prog_8_method_21_code 86 = .ok (.aload_n 0, 1) := by decide +kernel
theorem d_M_fetch_87 : decode prog_8_method_21_code 87 = .ok (.getfield 24, 3) := by decide +kernel
theorem d_M_fetch_90 : decode prog_8_method_21_code 90 = .ok (.aload_n 0, 1) := by decide +kernel
theorem d_M_fetch_91 : decode prog_8_method_21_code 91 = .ok (.getfield 33, 3) := by decide +kernel
theorem d_M_fetch_94 : decode prog_8_method_21_code 94 = .ok (.iload_n 1, 1) := by decide +kernel
theorem d_M_fetch_95 : decode prog_8_method_21_code 95 = .ok (.iaload, 1) := by decide +kernel
theorem d_M_fetch_96 : decode prog_8_method_21_code 96 = .ok (.iaload, 1) := by decide +kernel
theorem d_M_fetch_97 : decode prog_8_method_21_code 97 = .ok (.invokevirtual 144, 3) := by decide +kernel
theorem d_M_fetch_100 : decode prog_8_method_21_code 100 = .ok (.istore_n 2, 1) := by decide +kernel
theorem d_M_fetch_101 : decode prog_8_method_21_code 101 = .ok (.iconst 1, 1) := by decide +kernel
theorem d_M_fetch_102 : decode prog_8_method_21_code 102 = .ok (.ireturn, 1) := by decide +kernel
theorem d_M_send_0 : decode prog_8_method_18_code 0 = .ok (.aload_n 0, 1) := by decide +kernel
theorem d_M_send_1 : decode prog_8_method_18_code 1 = .ok (.getfield 137, 3) := by decide +kernel
theorem d_M_send_4 : decode prog_8_method_18_code 4 = .ok (.bipush 8, 2) := by decide +kernel
theorem d_M_send_6 : decode prog_8_method_18_code 6 = .ok (.if_icmp .lt 5, 3) := by decide +kernel
theorem d_M_send_9 : decode prog_8_method_18_code 9 = .ok (.iconst 0, 1) := by decide +kernel
theorem d_M_send_10 : decode prog_8_method_18_code 10 = .ok (.ireturn, 1) := by decide +kernel
theorem d_M_send_11 : decode prog_8_method_18_code 11 = .ok (.aload_n 0, 1) := by decide +kernel
theorem d_M_send_12 : decode prog_8_method_18_code 12 = .ok (.getfield 66, 3) := by decide +kernel
theorem d_M_send_15 : decode prog_8_method_18_code 15 = .ok (.aload_n 0, 1) := by decide +kernel
theorem d_M_send_16 : decode prog_8_method_18_code 16 = .ok (.getfield 137, 3) := by decide +kernel
theorem d_M_send_19 : decode prog_8_method_18_code 19 = .ok (.iload_n 1, 1) := by decide +kernel
theorem d_M_send_20 : decode prog_8_method_18_code 20 = .ok (.iastore, 1) := by decide +kernel
theorem d_M_send_21 : decode prog_8_method_18_code 21 = .ok (.aload_n 0, 1) := by decide +kernel
theorem d_M_send_22 : decode prog_8_method_18_code 22 = .ok (.getfield 69, 3) := by decide +kernel
theorem d_M_send_25 : decode prog_8_method_18_code 25 = .ok (.aload_n 0, 1) := by decide +kernel
theorem d_M_send_26 : decode prog_8_method_18_code 26 = .ok (.getfield 137, 3) := by decide +kernel
theorem d_M_send_29 : decode prog_8_method_18_code 29 = .ok (.iload_n 2, 1) := by decide +kernel
theorem d_M_send_30 : decode prog_8_method_18_code 30 = .ok (.iastore, 1) := by decide +kernel
theorem d_M_send_31 : decode prog_8_method_18_code 31 = .ok (.aload_n 0, 1) := by decide +kernel
theorem d_M_send_32 : decode prog_8_method_18_code 32 = .ok (.getfield 72, 3) := by decide +kernel
theorem d_M_send_35 : decode prog_8_method_18_code 35 = .ok (.aload_n 0, 1) := by decide +kernel
theorem d_M_send_36 : decode prog_8_method_18_code 36 = .ok (.getfield 137, 3) := by decide +kernel
theorem d_M_send_39 : decode prog_8_method_18_code 39 = .ok (.iload_n 3, 1) := by decide +kernel
theorem d_M_send_40 : decode prog_8_method_18_code 40 = .ok (.iastore, 1) := by decide +kernel
theorem d_M_send_41 : decode prog_8_method_18_code 41 = .ok (.aload_n 0, 1) := by decide +kernel
theorem d_M_send_42 : decode prog_8_method_18_code 42 = .ok (.getfield 75, 3) := by decide +kernel
theorem d_M_send_45 : decode prog_8_method_18_code 45 = .ok (.aload_n 0, 1) := by decide +kernel
theorem d_M_send_46 : decode prog_8_method_18_code 46 = .ok (.getfield 137, 3) := by decide +kernel
theorem d_M_send_49 : decode prog_8_method_18_code 49 = .ok (.iload 4, 2) := by decide +kernel
theorem d_M_send_51 : decode prog_8_method_18_code 51 = .ok (.iastore, 1) := by decide +kernel
theorem d_M_send_52 : decode prog_8_method_18_code 52 = .ok (.aload_n 0, 1) := by decide +kernel
theorem d_M_send_53 : decode prog_8_method_18_code 53 = .ok (.getfield 78, 3) := by decide +kernel
theorem d_M_send_56 : decode prog_8_method_18_code 56 = .ok (.aload_n 0, 1) := by decide +kernel
theorem d_M_send_57 : decode prog_8_method_18_code 57 = .ok (.getfield 137, 3) := by decide +kernel
theorem d_M_send_60 : decode prog_8_method_18_code 60 = .ok (.iload 5, 2) := by decide +kernel
theorem d_M_send_62 : decode prog_8_method_18_code 62 = .ok (.iastore, 1) := by decide +kernel
theorem d_M_send_63 : decode prog_8_method_18_code 63 = .ok (.aload_n 0, 1) := by decide +kernel
theorem d_M_send_64 : decode prog_8_method_18_code 64 = .ok (.getfield 81, 3) := by decide +kernel
theorem d_M_send_67 : decode prog_8_method_18_code 67 = .ok (.aload_n 0, 1) := by decide +kernel
theorem d_M_send_68 : decode prog_8_method_18_code 68 = .ok (.getfield 137, 3) := by decide +kernel
theorem d_M_send_71 : decode prog_8_method_18_code 71 = .ok (.iload 6, 2) := by decide +kernel
theorem d_M_send_73 : decode prog_8_method_18_code 73 = .ok (.iastore, 1) := by decide +kernel
theorem d_M_send_74 : decode prog_8_method_18_code 74 = .ok (.aload_n 0, 1) := by decide +kernel
theorem d_M_send_75 : decode prog_8_method_18_code 75 = .ok (.getfield 84, 3) := by decide +kernel
theorem d_M_send_78 : decode prog_8_method_18_code 78 = .ok (.aload_n 0, 1) := by decide +kernel
theorem d_M_send_79 : decode prog_8_method_18_code 79 = .ok (.getfield 137, 3) := by decide +kernel
theorem d_M_send_82 : decode prog_8_method_18_code 82 = .ok (.iload 7, 2) := by decide +kernel
theorem d_M_send_84 : decode prog_8_method_18_code 84 = .ok (.iastore, 1) := by decide +kernel
theorem d_M_send_85 : decode prog_8_method_18_code 85 = .ok (.aload_n 0, 1) := by decide +kernel
theorem d_M_send_86 : decode prog_8_method_18_code 86 = .ok (.getfield 87, 3) := by decide +kernel
theorem d_M_send_89 : decode prog_8_method_18_code 89 = .ok (.aload_n 0, 1) := by decide +kernel
theorem d_M_send_90 : decode prog_8_method_18_code 90 = .ok (.getfield 137, 3) := by decide +kernel
theorem d_M_send_93 : decode prog_8_method_18_code 93 = .ok (.iconst 0, 1) := by decide +kernel
theorem d_M_send_94 : decode prog_8_method_18_code 94 = .ok (.iastore, 1) := by decide +kernel
theorem d_M_send_95 : decode prog_8_method_18_code 95 = .ok (.aload_n 0, 1) := by decide +kernel
theorem d_M_send_96 : decode prog_8_method_18_code 96 = .ok (.dup, 1) := by decide +kernel
theorem d_M_send_97 : decode prog_8_method_18_code 97 = .ok (.getfield 137, 3) := by decide +kernel
theorem d_M_send_100 : decode prog_8_method_18_code 100 = .ok (.iconst 1, 1) := by decide +kernel
theorem d_M_send_101 : decode prog_8_method_18_code 101 = .ok (.iadd, 1) := by decide +kernel
theorem d_M_send_102 : decode prog_8_method_18_code 102 = .ok (.putfield 137, 3) := by decide +kernel
theorem d_M_send_105 : decode prog_8_method_18_code 105 = .ok (.iconst 1, 1) := by decide +kernel
theorem d_M_send_106 : decode prog_8_method_18_code 106 = .ok (.ireturn, 1) := by decide +kernel
theorem d_M_lose_0 : decode prog_8_method_22_code 0 = .ok (.aload_n 0, 1) := by decide +kernel
theorem d_M_lose_1 : decode prog_8_method_22_code 1 = .ok (.iload_n 1, 1) := by decide +kernel
theorem d_M_lose_2 : decode prog_8_method_22_code 2 = .ok (.invokevirtual 148, 3) := by decide +kernel
theorem d_M_lose_5 : decode prog_8_method_22_code 5 = .ok (.ifCond .ne 5, 3) := by decide +kernel
theorem d_M_lose_8 : decode prog_8_method_22_code 8 = .ok (.iconst 0, 1) := by decide +kernel
theorem d_M_lose_9 : decode prog_8_method_22_code 9 = .ok (.ireturn, 1) := by decide +kernel
theorem d_M_lose_10 : decode prog_8_method_22_code 10 = .ok (.aload_n 0, 1) := by decide +kernel
theorem d_M_lose_11 : decode prog_8_method_22_code 11 = .ok (.iload_n 1, 1) := by decide +kernel
theorem d_M_lose_12 : decode prog_8_method_22_code 12 = .ok (.invokevirtual 151, 3) := by decide +kernel
theorem d_M_lose_15 : decode prog_8_method_22_code 15 = .ok (.iconst 1, 1) := by decide +kernel
theorem d_M_lose_16 : decode prog_8_method_22_code 16 = .ok (.ireturn, 1) := by decide +kernel
theorem d_M_isMessage_0 : decode prog_8_method_17_code 0 = .ok (.iload_n 1, 1) := by decide +kernel
theorem d_M_isMessage_1 : decode prog_8_method_17_code 1 = .ok (.ifCond .lt 15, 3) := by decide +kernel
theorem d_M_isMessage_4 : decode prog_8_method_17_code 4 = .ok (.iload_n 1, 1) := by decide +kernel
theorem d_M_isMessage_5 : decode prog_8_method_17_code 5 = .ok (.aload_n 0, 1) := by decide +kernel
theorem d_M_isMessage_6 : decode prog_8_method_17_code 6 = .ok (.getfield 137, 3) := by decide +kernel
theorem d_M_isMessage_9 : decode prog_8_method_17_code 9 = .ok (.if_icmp .ge 7, 3) := by decide +kernel
theorem d_M_isMessage_12 : decode prog_8_method_17_code 12 = .ok (.iconst 1, 1) := by decide +kernel
theorem d_M_isMessage_13 : decode prog_8_method_17_code 13 = .ok (.goto 4, 3) := by decide +kernel
theorem d_M_isMessage_16 : decode prog_8_method_17_code 16 = .ok (.iconst 0, 1) := by decide +kernel
theorem d_M_isMessage_17 : decode prog_8_method_17_code 17 = .ok (.ireturn, 1) := by decide +kernel
theorem d_M_remove_0 : decode prog_8_method_20_code 0 = .ok (.iload_n 1, 1) := by decide +kernel
theorem d_M_remove_1 : decode prog_8_method_20_code 1 = .ok (.iconst 1, 1) := by decide +kernel
theorem d_M_remove_2 : decode prog_8_method_20_code 2 = .ok (.iadd, 1) := by decide +kernel
theorem d_M_remove_3 : decode prog_8_method_20_code 3 = .ok (.istore_n 2, 1) := by decide +kernel
theorem d_M_remove_4 : decode prog_8_method_20_code 4 = .ok (.iload_n 2, 1) := by decide +kernel
theorem d_M_remove_5 : decode prog_8_method_20_code 5 = .ok (.aload_n 0, 1) := by decide +kernel
theorem d_M_remove_6 : decode prog_8_method_20_code 6 = .ok (.getfield 137, 3) := by decide +kernel
theorem d_M_remove_9 : decode prog_8_method_20_code 9 = .ok (.if_icmp .ge 17, 3) := by decide +kernel
theorem d_M_remove_12 : decode prog_8_method_20_code 12 = .ok (.aload_n 0, 1) := by decide +kernel
theorem d_M_remove_13 : decode prog_8_method_20_code 13 = .ok (.iload_n 2, 1) := by decide +kernel
theorem d_M_remove_14 : decode prog_8_method_20_code 14 = .ok (.iload_n 2, 1) := by decide +kernel
theorem d_M_remove_15 : decode prog_8_method_20_code 15 = .ok (.iconst 1, 1) := by decide +kernel
theorem d_M_remove_16 : decode prog_8_method_20_code 16 = .ok (.isub, 1) := by decide +kernel
theorem d_M_remove_17 : decode prog_8_method_20_code 17 = .ok (.invokevirtual 140, 3) := by decide +kernel
theorem d_M_remove_20 : decode prog_8_method_20_code 20 = .ok (.iinc 2 1, 3) := by decide +kernel
theorem d_M_remove_23 : decode prog_8_method_20_code 23 = .ok (.goto (-19), 3) := by decide +kernel
theorem d_M_remove_26 : decode prog_8_method_20_code 26 = .ok (.aload_n 0, 1) := by decide +kernel
theorem d_M_remove_27 : decode prog_8_method_20_code 27 = .ok (.dup, 1) := by decide +kernel
theorem d_M_remove_28 : decode prog_8_method_20_code 28 = .ok (.getfield 137, 3) := by decide +kernel
theorem d_M_remove_31 : decode prog_8_method_20_code 31 = .ok (.iconst 1, 1) := by decide +kernel
theorem d_M_remove_32 : decode prog_8_method_20_code 32 = .ok (.isub, 1) := by decide +kernel
theorem d_M_remove_33 : decode prog_8_method_20_code 33 = .ok (.putfield 137, 3) := by decide +kernel
theorem d_M_remove_36 : decode prog_8_method_20_code 36 = .ok (.return_, 1) := by decide +kernel
theorem d_M_move_0 : decode prog_8_method_19_code 0 = .ok (.aload_n 0, 1) := by decide +kernel
theorem d_M_move_1 : decode prog_8_method_19_code 1 = .ok (.getfield 66, 3) := by decide +kernel
theorem d_M_move_4 : decode prog_8_method_19_code 4 = .ok (.iload_n 2, 1) := by decide +kernel
theorem d_M_move_5 : decode prog_8_method_19_code 5 = .ok (.aload_n 0, 1) := by decide +kernel
theorem d_M_move_6 : decode prog_8_method_19_code 6 = .ok (.getfield 66, 3) := by decide +kernel
theorem d_M_move_9 : decode prog_8_method_19_code 9 = .ok (.iload_n 1, 1) := by decide +kernel
theorem d_M_move_10 : decode prog_8_method_19_code 10 = .ok (.iaload, 1) := by decide +kernel
theorem d_M_move_11 : decode prog_8_method_19_code 11 = .ok (.iastore, 1) := by decide +kernel
theorem d_M_move_12 : decode prog_8_method_19_code 12 = .ok (.aload_n 0, 1) := by decide +kernel
theorem d_M_move_13 : decode prog_8_method_19_code 13 = .ok (.getfield 69, 3) := by decide +kernel
theorem d_M_move_16 : decode prog_8_method_19_code 16 = .ok (.iload_n 2, 1) := by decide +kernel
theorem d_M_move_17 : decode prog_8_method_19_code 17 = .ok (.aload_n 0, 1) := by decide +kernel
theorem d_M_move_18 : decode prog_8_method_19_code 18 = .ok (.getfield 69, 3) := by decide +kernel
theorem d_M_move_21 : decode prog_8_method_19_code 21 = .ok (.iload_n 1, 1) := by decide +kernel
theorem d_M_move_22 : decode prog_8_method_19_code 22 = .ok (.iaload, 1) := by decide +kernel
theorem d_M_move_23 : decode prog_8_method_19_code 23 = .ok (.iastore, 1) := by decide +kernel
theorem d_M_move_24 : decode prog_8_method_19_code 24 = .ok (.aload_n 0, 1) := by decide +kernel
theorem d_M_move_25 : decode prog_8_method_19_code 25 = .ok (.getfield 72, 3) := by decide +kernel
theorem d_M_move_28 : decode prog_8_method_19_code 28 = .ok (.iload_n 2, 1) := by decide +kernel
theorem d_M_move_29 : decode prog_8_method_19_code 29 = .ok (.aload_n 0, 1) := by decide +kernel
theorem d_M_move_30 : decode prog_8_method_19_code 30 = .ok (.getfield 72, 3) := by decide +kernel
theorem d_M_move_33 : decode prog_8_method_19_code 33 = .ok (.iload_n 1, 1) := by decide +kernel
theorem d_M_move_34 : decode prog_8_method_19_code 34 = .ok (.iaload, 1) := by decide +kernel
theorem d_M_move_35 : decode prog_8_method_19_code 35 = .ok (.iastore, 1) := by decide +kernel
theorem d_M_move_36 : decode prog_8_method_19_code 36 = .ok (.aload_n 0, 1) := by decide +kernel
theorem d_M_move_37 : decode prog_8_method_19_code 37 = .ok (.getfield 75, 3) := by decide +kernel
theorem d_M_move_40 : decode prog_8_method_19_code 40 = .ok (.iload_n 2, 1) := by decide +kernel
theorem d_M_move_41 : decode prog_8_method_19_code 41 = .ok (.aload_n 0, 1) := by decide +kernel
theorem d_M_move_42 : decode prog_8_method_19_code 42 = .ok (.getfield 75, 3) := by decide +kernel
theorem d_M_move_45 : decode prog_8_method_19_code 45 = .ok (.iload_n 1, 1) := by decide +kernel
theorem d_M_move_46 : decode prog_8_method_19_code 46 = .ok (.iaload, 1) := by decide +kernel
theorem d_M_move_47 : decode prog_8_method_19_code 47 = .ok (.iastore, 1) := by decide +kernel
theorem d_M_move_48 : decode prog_8_method_19_code 48 = .ok (.aload_n 0, 1) := by decide +kernel
theorem d_M_move_49 : decode prog_8_method_19_code 49 = .ok (.getfield 78, 3) := by decide +kernel
theorem d_M_move_52 : decode prog_8_method_19_code 52 = .ok (.iload_n 2, 1) := by decide +kernel
theorem d_M_move_53 : decode prog_8_method_19_code 53 = .ok (.aload_n 0, 1) := by decide +kernel
theorem d_M_move_54 : decode prog_8_method_19_code 54 = .ok (.getfield 78, 3) := by decide +kernel
theorem d_M_move_57 : decode prog_8_method_19_code 57 = .ok (.iload_n 1, 1) := by decide +kernel
theorem d_M_move_58 : decode prog_8_method_19_code 58 = .ok (.iaload, 1) := by decide +kernel
theorem d_M_move_59 : decode prog_8_method_19_code 59 = .ok (.iastore, 1) := by decide +kernel
theorem d_M_move_60 : decode prog_8_method_19_code 60 = .ok (.aload_n 0, 1) := by decide +kernel
theorem d_M_move_61 : decode prog_8_method_19_code 61 = .ok (.getfield 81, 3) := by decide +kernel
theorem d_M_move_64 : decode prog_8_method_19_code 64 = .ok (.iload_n 2, 1) := by decide +kernel
theorem d_M_move_65 : decode prog_8_method_19_code 65 = .ok (.aload_n 0, 1) := by decide +kernel
theorem d_M_move_66 : decode prog_8_method_19_code 66 = .ok (.getfield 81, 3) := by decide +kernel
theorem d_M_move_69 : decode prog_8_method_19_code 69 = .ok (.iload_n 1, 1) := by decide +kernel
theorem d_M_move_70 : decode prog_8_method_19_code 70 = .ok (.iaload, 1) := by decide +kernel
theorem d_M_move_71 : decode prog_8_method_19_code 71 = .ok (.iastore, 1) := by decide +kernel
theorem d_M_move_72 : decode prog_8_method_19_code 72 = .ok (.aload_n 0, 1) := by decide +kernel
theorem d_M_move_73 : decode prog_8_method_19_code 73 = .ok (.getfield 84, 3) := by decide +kernel
theorem d_M_move_76 : decode prog_8_method_19_code 76 = .ok (.iload_n 2, 1) := by decide +kernel
theorem d_M_move_77 : decode prog_8_method_19_code 77 = .ok (.aload_n 0, 1) := by decide +kernel
theorem d_M_move_78 : decode prog_8_method_19_code 78 = .ok (.getfield 84, 3) := by decide +kernel
theorem d_M_move_81 : decode prog_8_method_19_code 81 = .ok (.iload_n 1, 1) := by decide +kernel
theorem d_M_move_82 : decode prog_8_method_19_code 82 = .ok (.iaload, 1) := by decide +kernel
theorem d_M_move_83 : decode prog_8_method_19_code 83 = .ok (.iastore, 1) := by decide +kernel
theorem d_M_move_84 : decode prog_8_method_19_code 84 = .ok (.aload_n 0, 1) := by decide +kernel
theorem d_M_move_85 : decode prog_8_method_19_code 85 = .ok (.getfield 87, 3) := by decide +kernel
theorem d_M_move_88 : decode prog_8_method_19_code 88 = .ok (.iload_n 2, 1) := by decide +kernel
theorem d_M_move_89 : decode prog_8_method_19_code 89 = .ok (.aload_n 0, 1) := by decide +kernel
theorem d_M_move_90 : decode prog_8_method_19_code 90 = .ok (.getfield 87, 3) := by decide +kernel
theorem d_M_move_93 : decode prog_8_method_19_code 93 = .ok (.iload_n 1, 1) := by decide +kernel
theorem d_M_move_94 : decode prog_8_method_19_code 94 = .ok (.iaload, 1) := by decide +kernel
theorem d_M_move_95 : decode prog_8_method_19_code 95 = .ok (.iastore, 1) := by decide +kernel
theorem d_M_move_96 : decode prog_8_method_19_code 96 = .ok (.return_, 1) := by decide +kernel
theorem d_M_flight_0 : decode prog_8_method_23_code 0 = .ok (.aload_n 0, 1) := by decide +kernel
theorem d_M_flight_1 : decode prog_8_method_23_code 1 = .ok (.getfield 137, 3) := by decide +kernel
theorem d_M_flight_4 : decode prog_8_method_23_code 4 = .ok (.ireturn, 1) := by decide +kernel
theorem d_M_message_0 : decode prog_8_method_24_code 0 = .ok (.aload_n 0, 1) := by decide +kernel
theorem d_M_message_1 : decode prog_8_method_24_code 1 = .ok (.iload_n 1, 1) := by decide +kernel
theorem d_M_message_2 : decode prog_8_method_24_code 2 = .ok (.invokevirtual 148, 3) := by decide +kernel
theorem d_M_message_5 : decode prog_8_method_24_code 5 = .ok (.ifCond .ne 5, 3) := by decide +kernel
theorem d_M_message_8 : decode prog_8_method_24_code 8 = .ok (.iconst (-1), 1) := by decide +kernel
theorem d_M_message_9 : decode prog_8_method_24_code 9 = .ok (.ireturn, 1) := by decide +kernel
theorem d_M_message_10 : decode prog_8_method_24_code 10 = .ok (.iload_n 2, 1) := by decide +kernel
theorem d_M_message_11 : decode prog_8_method_24_code 11 = .ok (.tableswitch 90 0 6 #[41, 48, 55, 62, 69, 76, 83], 41) := by decide +kernel
theorem d_M_message_52 : decode prog_8_method_24_code 52 = .ok (.aload_n 0, 1) := by decide +kernel
theorem d_M_message_53 : decode prog_8_method_24_code 53 = .ok (.getfield 66, 3) := by decide +kernel
theorem d_M_message_56 : decode prog_8_method_24_code 56 = .ok (.iload_n 1, 1) := by decide +kernel
theorem d_M_message_57 : decode prog_8_method_24_code 57 = .ok (.iaload, 1) := by decide +kernel
theorem d_M_message_58 : decode prog_8_method_24_code 58 = .ok (.ireturn, 1) := by decide +kernel
theorem d_M_message_59 : decode prog_8_method_24_code 59 = .ok (.aload_n 0, 1) := by decide +kernel
theorem d_M_message_60 : decode prog_8_method_24_code 60 = .ok (.getfield 69, 3) := by decide +kernel
theorem d_M_message_63 : decode prog_8_method_24_code 63 = .ok (.iload_n 1, 1) := by decide +kernel
theorem d_M_message_64 : decode prog_8_method_24_code 64 = .ok (.iaload, 1) := by decide +kernel
theorem d_M_message_65 : decode prog_8_method_24_code 65 = .ok (.ireturn, 1) := by decide +kernel
theorem d_M_message_66 : decode prog_8_method_24_code 66 = .ok (.aload_n 0, 1) := by decide +kernel
theorem d_M_message_67 : decode prog_8_method_24_code 67 = .ok (.getfield 72, 3) := by decide +kernel
theorem d_M_message_70 : decode prog_8_method_24_code 70 = .ok (.iload_n 1, 1) := by decide +kernel
theorem d_M_message_71 : decode prog_8_method_24_code 71 = .ok (.iaload, 1) := by decide +kernel
theorem d_M_message_72 : decode prog_8_method_24_code 72 = .ok (.ireturn, 1) := by decide +kernel
theorem d_M_message_73 : decode prog_8_method_24_code 73 = .ok (.aload_n 0, 1) := by decide +kernel
theorem d_M_message_74 : decode prog_8_method_24_code 74 = .ok (.getfield 75, 3) := by decide +kernel
theorem d_M_message_77 : decode prog_8_method_24_code 77 = .ok (.iload_n 1, 1) := by decide +kernel
theorem d_M_message_78 : decode prog_8_method_24_code 78 = .ok (.iaload, 1) := by decide +kernel
theorem d_M_message_79 : decode prog_8_method_24_code 79 = .ok (.ireturn, 1) := by decide +kernel
theorem d_M_message_80 : decode prog_8_method_24_code 80 = .ok (.aload_n 0, 1) := by decide +kernel
theorem d_M_message_81 : decode prog_8_method_24_code 81 = .ok (.getfield 78, 3) := by decide +kernel
theorem d_M_message_84 : decode prog_8_method_24_code 84 = .ok (.iload_n 1, 1) := by decide +kernel
theorem d_M_message_85 : decode prog_8_method_24_code 85 = .ok (.iaload, 1) := by decide +kernel
theorem d_M_message_86 : decode prog_8_method_24_code 86 = .ok (.ireturn, 1) := by decide +kernel
theorem d_M_message_87 : decode prog_8_method_24_code 87 = .ok (.aload_n 0, 1) := by decide +kernel
theorem d_M_message_88 : decode prog_8_method_24_code 88 = .ok (.getfield 81, 3) := by decide +kernel
theorem d_M_message_91 : decode prog_8_method_24_code 91 = .ok (.iload_n 1, 1) := by decide +kernel
theorem d_M_message_92 : decode prog_8_method_24_code 92 = .ok (.iaload, 1) := by decide +kernel
theorem d_M_message_93 : decode prog_8_method_24_code 93 = .ok (.ireturn, 1) := by decide +kernel
theorem d_M_message_94 : decode prog_8_method_24_code 94 = .ok (.aload_n 0, 1) := by decide +kernel
theorem d_M_message_95 : decode prog_8_method_24_code 95 = .ok (.getfield 84, 3) := by decide +kernel
theorem d_M_message_98 : decode prog_8_method_24_code 98 = .ok (.iload_n 1, 1) := by decide +kernel
theorem d_M_message_99 : decode prog_8_method_24_code 99 = .ok (.iaload, 1) := by decide +kernel
theorem d_M_message_100 : decode prog_8_method_24_code 100 = .ok (.ireturn, 1) := by decide +kernel
theorem d_M_message_101 : decode prog_8_method_24_code 101 = .ok (.iconst (-1), 1) := by decide +kernel
theorem d_M_message_102 : decode prog_8_method_24_code 102 = .ok (.ireturn, 1) := by decide +kernel
theorem d_M_deliver_0 : decode prog_8_method_25_code 0 = .ok (.aload_n 0, 1) := by decide +kernel
theorem d_M_deliver_1 : decode prog_8_method_25_code 1 = .ok (.iload_n 1, 1) := by decide +kernel
theorem d_M_deliver_2 : decode prog_8_method_25_code 2 = .ok (.invokevirtual 148, 3) := by decide +kernel
theorem d_M_deliver_5 : decode prog_8_method_25_code 5 = .ok (.ifCond .ne 5, 3) := by decide +kernel
theorem d_M_deliver_8 : decode prog_8_method_25_code 8 = .ok (.iconst 0, 1) := by decide +kernel
theorem d_M_deliver_9 : decode prog_8_method_25_code 9 = .ok (.ireturn, 1) := by decide +kernel
theorem d_M_deliver_10 : decode prog_8_method_25_code 10 = .ok (.iconst 0, 1) := by decide +kernel
theorem d_M_deliver_11 : decode prog_8_method_25_code 11 = .ok (.istore_n 2, 1) := by decide +kernel
theorem d_M_deliver_12 : decode prog_8_method_25_code 12 = .ok (.iload_n 2, 1) := by decide +kernel
theorem d_M_deliver_13 : decode prog_8_method_25_code 13 = .ok (.bipush 7, 2) := by decide +kernel
theorem d_M_deliver_15 : decode prog_8_method_25_code 15 = .ok (.if_icmp .ge 21, 3) := by decide +kernel
theorem d_M_deliver_18 : decode prog_8_method_25_code 18 = .ok (.aload_n 0, 1) := by decide +kernel
theorem d_M_deliver_19 : decode prog_8_method_25_code 19 = .ok (.getfield 90, 3) := by decide +kernel
theorem d_M_deliver_22 : decode prog_8_method_25_code 22 = .ok (.iload_n 2, 1) := by decide +kernel
theorem d_M_deliver_23 : decode prog_8_method_25_code 23 = .ok (.aload_n 0, 1) := by decide +kernel
theorem d_M_deliver_24 : decode prog_8_method_25_code 24 = .ok (.iload_n 1, 1) := by decide +kernel
theorem d_M_deliver_25 : decode prog_8_method_25_code 25 = .ok (.iload_n 2, 1) := by decide +kernel
theorem d_M_deliver_26 : decode prog_8_method_25_code 26 = .ok (.invokevirtual 154, 3) := by decide +kernel
theorem d_M_deliver_29 : decode prog_8_method_25_code 29 = .ok (.iastore, 1) := by decide +kernel
theorem d_M_deliver_30 : decode prog_8_method_25_code 30 = .ok (.iinc 2 1, 3) := by decide +kernel
theorem d_M_deliver_33 : decode prog_8_method_25_code 33 = .ok (.goto (-21), 3) := by decide +kernel
theorem d_M_deliver_36 : decode prog_8_method_25_code 36 = .ok (.aload_n 0, 1) := by decide +kernel
theorem d_M_deliver_37 : decode prog_8_method_25_code 37 = .ok (.getfield 90, 3) := by decide +kernel
theorem d_M_deliver_40 : decode prog_8_method_25_code 40 = .ok (.bipush 7, 2) := by decide +kernel
theorem d_M_deliver_42 : decode prog_8_method_25_code 42 = .ok (.aload_n 0, 1) := by decide +kernel
theorem d_M_deliver_43 : decode prog_8_method_25_code 43 = .ok (.getfield 87, 3) := by decide +kernel
theorem d_M_deliver_46 : decode prog_8_method_25_code 46 = .ok (.iload_n 1, 1) := by decide +kernel
theorem d_M_deliver_47 : decode prog_8_method_25_code 47 = .ok (.iaload, 1) := by decide +kernel
theorem d_M_deliver_48 : decode prog_8_method_25_code 48 = .ok (.iastore, 1) := by decide +kernel
theorem d_M_deliver_49 : decode prog_8_method_25_code 49 = .ok (.aload_n 0, 1) := by decide +kernel
theorem d_M_deliver_50 : decode prog_8_method_25_code 50 = .ok (.iload_n 1, 1) := by decide +kernel
theorem d_M_deliver_51 : decode prog_8_method_25_code 51 = .ok (.invokevirtual 151, 3) := by decide +kernel
theorem d_M_deliver_54 : decode prog_8_method_25_code 54 = .ok (.aload_n 0, 1) := by decide +kernel
theorem d_M_deliver_55 : decode prog_8_method_25_code 55 = .ok (.getfield 90, 3) := by decide +kernel
theorem d_M_deliver_58 : decode prog_8_method_25_code 58 = .ok (.iconst 2, 1) := by decide +kernel
theorem d_M_deliver_59 : decode prog_8_method_25_code 59 = .ok (.iaload, 1) := by decide +kernel
theorem d_M_deliver_60 : decode prog_8_method_25_code 60 = .ok (.istore_n 2, 1) := by decide +kernel
theorem d_M_deliver_61 : decode prog_8_method_25_code 61 = .ok (.aload_n 0, 1) := by decide +kernel
theorem d_M_deliver_62 : decode prog_8_method_25_code 62 = .ok (.getfield 90, 3) := by decide +kernel
theorem d_M_deliver_65 : decode prog_8_method_25_code 65 = .ok (.iconst 0, 1) := by decide +kernel
theorem d_M_deliver_66 : decode prog_8_method_25_code 66 = .ok (.iaload, 1) := by decide +kernel
theorem d_M_deliver_67 : decode prog_8_method_25_code 67 = .ok (.ifCond .ne 50, 3) := by decide +kernel
theorem d_M_deliver_70 : decode prog_8_method_25_code 70 = .ok (.aload_n 0, 1) := by decide +kernel
theorem d_M_deliver_71 : decode prog_8_method_25_code 71 = .ok (.iload_n 2, 1) := by decide +kernel
theorem d_M_deliver_72 : decode prog_8_method_25_code 72 = .ok (.invokevirtual 123, 3) := by decide +kernel
theorem d_M_deliver_75 : decode prog_8_method_25_code 75 = .ok (.ifCond .eq 42, 3) := by decide +kernel
theorem d_M_deliver_78 : decode prog_8_method_25_code 78 = .ok (.aload_n 0, 1) := by decide +kernel
theorem d_M_deliver_79 : decode prog_8_method_25_code 79 = .ok (.getfield 42, 3) := by decide +kernel
theorem d_M_deliver_82 : decode prog_8_method_25_code 82 = .ok (.iload_n 2, 1) := by decide +kernel
theorem d_M_deliver_83 : decode prog_8_method_25_code 83 = .ok (.iaload, 1) := by decide +kernel
theorem d_M_deliver_84 : decode prog_8_method_25_code 84 = .ok (.aload_n 0, 1) := by decide +kernel
theorem d_M_deliver_85 : decode prog_8_method_25_code 85 = .ok (.getfield 90, 3) := by decide +kernel
theorem d_M_deliver_88 : decode prog_8_method_25_code 88 = .ok (.iconst 3, 1) := by decide +kernel
theorem d_M_deliver_89 : decode prog_8_method_25_code 89 = .ok (.iaload, 1) := by decide +kernel
theorem d_M_deliver_90 : decode prog_8_method_25_code 90 = .ok (.if_icmp .ne 27, 3) := by decide +kernel
theorem d_M_deliver_93 : decode prog_8_method_25_code 93 = .ok (.aload_n 0, 1) := by decide +kernel
theorem d_M_deliver_94 : decode prog_8_method_25_code 94 = .ok (.iload_n 2, 1) := by decide +kernel
theorem d_M_deliver_95 : decode prog_8_method_25_code 95 = .ok (.aload_n 0, 1) := by decide +kernel
theorem d_M_deliver_96 : decode prog_8_method_25_code 96 = .ok (.getfield 90, 3) := by decide +kernel
theorem d_M_deliver_99 : decode prog_8_method_25_code 99 = .ok (.iconst 1, 1) := by decide +kernel
theorem d_M_deliver_100 : decode prog_8_method_25_code 100 = .ok (.iaload, 1) := by decide +kernel
theorem d_M_deliver_101 : decode prog_8_method_25_code 101 = .ok (.aload_n 0, 1) := by decide +kernel
theorem d_M_deliver_102 : decode prog_8_method_25_code 102 = .ok (.getfield 90, 3) := by decide +kernel
theorem d_M_deliver_105 : decode prog_8_method_25_code 105 = .ok (.iconst 5, 1) := by decide +kernel
theorem d_M_deliver_106 : decode prog_8_method_25_code 106 = .ok (.iaload, 1) := by decide +kernel
theorem d_M_deliver_107 : decode prog_8_method_25_code 107 = .ok (.aload_n 0, 1) := by decide +kernel
theorem d_M_deliver_108 : decode prog_8_method_25_code 108 = .ok (.getfield 90, 3) := by decide +kernel
theorem d_M_deliver_111 : decode prog_8_method_25_code 111 = .ok (.bipush 6, 2) := by decide +kernel
theorem d_M_deliver_113 : decode prog_8_method_25_code 113 = .ok (.iaload, 1) := by decide +kernel
theorem d_M_deliver_114 : decode prog_8_method_25_code 114 = .ok (.invokevirtual 157, 3) := by decide +kernel
theorem d_M_deliver_117 : decode prog_8_method_25_code 117 = .ok (.aload_n 0, 1) := by decide +kernel
theorem d_M_deliver_118 : decode prog_8_method_25_code 118 = .ok (.getfield 90, 3) := by decide +kernel
theorem d_M_deliver_121 : decode prog_8_method_25_code 121 = .ok (.iconst 0, 1) := by decide +kernel
theorem d_M_deliver_122 : decode prog_8_method_25_code 122 = .ok (.iaload, 1) := by decide +kernel
theorem d_M_deliver_123 : decode prog_8_method_25_code 123 = .ok (.ifCond .le 63, 3) := by decide +kernel
theorem d_M_deliver_126 : decode prog_8_method_25_code 126 = .ok (.aload_n 0, 1) := by decide +kernel
theorem d_M_deliver_127 : decode prog_8_method_25_code 127 = .ok (.getfield 39, 3) := by decide +kernel
theorem d_M_deliver_130 : decode prog_8_method_25_code 130 = .ok (.iload_n 2, 1) := by decide +kernel
theorem d_M_deliver_131 : decode prog_8_method_25_code 131 = .ok (.baload, 1) := by decide +kernel
theorem d_M_deliver_132 : decode prog_8_method_25_code 132 = .ok (.ifCond .eq 54, 3) := by decide +kernel
theorem d_M_deliver_135 : decode prog_8_method_25_code 135 = .ok (.aload_n 0, 1) := by decide +kernel
theorem d_M_deliver_136 : decode prog_8_method_25_code 136 = .ok (.getfield 42, 3) := by decide +kernel
theorem d_M_deliver_139 : decode prog_8_method_25_code 139 = .ok (.iload_n 2, 1) := by decide +kernel
theorem d_M_deliver_140 : decode prog_8_method_25_code 140 = .ok (.iaload, 1) := by decide +kernel
theorem d_M_deliver_141 : decode prog_8_method_25_code 141 = .ok (.aload_n 0, 1) := by decide +kernel
theorem d_M_deliver_142 : decode prog_8_method_25_code 142 = .ok (.getfield 90, 3) := by decide +kernel
theorem d_M_deliver_145 : decode prog_8_method_25_code 145 = .ok (.iconst 3, 1) := by decide +kernel
theorem d_M_deliver_146 : decode prog_8_method_25_code 146 = .ok (.iaload, 1) := by decide +kernel
theorem d_M_deliver_147 : decode prog_8_method_25_code 147 = .ok (.if_icmp .ne 39, 3) := by decide +kernel
theorem d_M_deliver_150 : decode prog_8_method_25_code 150 = .ok (.aload_n 0, 1) := by decide +kernel
theorem d_M_deliver_151 : decode prog_8_method_25_code 151 = .ok (.iload_n 2, 1) := by decide +kernel
theorem d_M_deliver_152 : decode prog_8_method_25_code 152 = .ok (.invokevirtual 123, 3) := by decide +kernel
theorem d_M_deliver_155 : decode prog_8_method_25_code 155 = .ok (.ifCond .ne 31, 3) := by decide +kernel
theorem d_M_deliver_158 : decode prog_8_method_25_code 158 = .ok (.aload_n 0, 1) := by decide +kernel
theorem d_M_deliver_159 : decode prog_8_method_25_code 159 = .ok (.getfield 51, 3) := by decide +kernel
theorem d_M_deliver_162 : decode prog_8_method_25_code 162 = .ok (.iload_n 2, 1) := by decide +kernel
theorem d_M_deliver_163 : decode prog_8_method_25_code 163 = .ok (.baload, 1) := by decide +kernel
theorem d_M_deliver_164 : decode prog_8_method_25_code 164 = .ok (.ifCond .eq 22, 3) := by decide +kernel
theorem d_M_deliver_167 : decode prog_8_method_25_code 167 = .ok (.aload_n 0, 1) := by decide +kernel
theorem d_M_deliver_168 : decode prog_8_method_25_code 168 = .ok (.getfield 48, 3) := by decide +kernel
theorem d_M_deliver_171 : decode prog_8_method_25_code 171 = .ok (.iload_n 2, 1) := by decide +kernel
theorem d_M_deliver_172 : decode prog_8_method_25_code 172 = .ok (.iaload, 1) := by decide +kernel
theorem d_M_deliver_173 : decode prog_8_method_25_code 173 = .ok (.aload_n 0, 1) := by decide +kernel
theorem d_M_deliver_174 : decode prog_8_method_25_code 174 = .ok (.getfield 90, 3) := by decide +kernel
theorem d_M_deliver_177 : decode prog_8_method_25_code 177 = .ok (.iconst 4, 1) := by decide +kernel
theorem d_M_deliver_178 : decode prog_8_method_25_code 178 = .ok (.iaload, 1) := by decide +kernel
theorem d_M_deliver_179 : decode prog_8_method_25_code 179 = .ok (.if_icmp .ne 7, 3) := by decide +kernel
theorem d_M_deliver_182 : decode prog_8_method_25_code 182 = .ok (.iconst 1, 1) := by decide +kernel
theorem d_M_deliver_183 : decode prog_8_method_25_code 183 = .ok (.goto 4, 3) := by decide +kernel
theorem d_M_deliver_186 : decode prog_8_method_25_code 186 = .ok (.iconst 0, 1) := by decide +kernel
theorem d_M_deliver_187 : decode prog_8_method_25_code 187 = .ok (.istore_n 3, 1) := by decide +kernel
theorem d_M_deliver_188 : decode prog_8_method_25_code 188 = .ok (.iload_n 3, 1) := by decide +kernel
theorem d_M_deliver_189 : decode prog_8_method_25_code 189 = .ok (.ifCond .eq 33, 3) := by decide +kernel
theorem d_M_deliver_192 : decode prog_8_method_25_code 192 = .ok (.aload_n 0, 1) := by decide +kernel
theorem d_M_deliver_193 : decode prog_8_method_25_code 193 = .ok (.getfield 51, 3) := by decide +kernel
theorem d_M_deliver_196 : decode prog_8_method_25_code 196 = .ok (.iload_n 2, 1) := by decide +kernel
theorem d_M_deliver_197 : decode prog_8_method_25_code 197 = .ok (.iconst 0, 1) := by decide +kernel
theorem d_M_deliver_198 : decode prog_8_method_25_code 198 = .ok (.bastore, 1) := by decide +kernel
theorem d_M_deliver_199 : decode prog_8_method_25_code 199 = .ok (.aload_n 0, 1) := by decide +kernel
theorem d_M_deliver_200 : decode prog_8_method_25_code 200 = .ok (.getfield 90, 3) := by decide +kernel
theorem d_M_deliver_203 : decode prog_8_method_25_code 203 = .ok (.iconst 0, 1) := by decide +kernel
theorem d_M_deliver_204 : decode prog_8_method_25_code 204 = .ok (.iaload, 1) := by decide +kernel
theorem d_M_deliver_205 : decode prog_8_method_25_code 205 = .ok (.iconst 1, 1) := by decide +kernel
theorem d_M_deliver_206 : decode prog_8_method_25_code 206 = .ok (.if_icmp .ne 11, 3) := by decide +kernel
theorem d_M_deliver_209 : decode prog_8_method_25_code 209 = .ok (.aload_n 0, 1) := by decide +kernel
theorem d_M_deliver_210 : decode prog_8_method_25_code 210 = .ok (.iload_n 2, 1) := by decide +kernel
theorem d_M_deliver_211 : decode prog_8_method_25_code 211 = .ok (.invokevirtual 161, 3) := by decide +kernel
theorem d_M_deliver_214 : decode prog_8_method_25_code 214 = .ok (.goto 8, 3) := by decide +kernel
theorem d_M_deliver_217 : decode prog_8_method_25_code 217 = .ok (.aload_n 0, 1) := by decide +kernel
theorem d_M_deliver_218 : decode prog_8_method_25_code 218 = .ok (.iload_n 2, 1) := by decide +kernel
theorem d_M_deliver_219 : decode prog_8_method_25_code 219 = .ok (.invokevirtual 164, 3) := by decide +kernel
theorem d_M_deliver_222 : decode prog_8_method_25_code 222 = .ok (.iconst 1, 1) := by decide +kernel
theorem d_M_deliver_223 : decode prog_8_method_25_code 223 = .ok (.ireturn, 1) := by decide +kernel
theorem d_M_answer_0 : decode prog_8_method_26_code 0 = .ok (.iload_n 3, 1) := by decide +kernel
theorem d_M_answer_1 : decode prog_8_method_26_code 1 = .ok (.aload_n 0, 1) := by decide +kernel
theorem d_M_answer_2 : decode prog_8_method_26_code 2 = .ok (.getfield 21, 3) := by decide +kernel
theorem d_M_answer_5 : decode prog_8_method_26_code 5 = .ok (.aload_n 0, 1) := by decide +kernel
theorem d_M_answer_6 : decode prog_8_method_26_code 6 = .ok (.getfield 33, 3) := by decide +kernel
theorem d_M_answer_9 : decode prog_8_method_26_code 9 = .ok (.iload_n 1, 1) := by decide +kernel
theorem d_M_answer_10 : decode prog_8_method_26_code 10 = .ok (.iaload, 1) := by decide +kernel
theorem d_M_answer_11 : decode prog_8_method_26_code 11 = .ok (.iaload, 1) := by decide +kernel
theorem d_M_answer_12 : decode prog_8_method_26_code 12 = .ok (.if_icmp .le 7, 3) := by decide +kernel
theorem d_M_answer_15 : decode prog_8_method_26_code 15 = .ok (.iconst 0, 1) := by decide +kernel
theorem d_M_answer_16 : decode prog_8_method_26_code 16 = .ok (.goto 9, 3) := by decide +kernel
theorem d_M_answer_19 : decode prog_8_method_26_code 19 = .ok (.aload_n 0, 1) := by decide +kernel
theorem d_M_answer_20 : decode prog_8_method_26_code 20 = .ok (.iload_n 1, 1) := by decide +kernel
theorem d_M_answer_21 : decode prog_8_method_26_code 21 = .ok (.iload_n 3, 1) := by decide +kernel
theorem d_M_answer_22 : decode prog_8_method_26_code 22 = .ok (.invokevirtual 130, 3) := by decide +kernel
theorem d_M_answer_25 : decode prog_8_method_26_code 25 = .ok (.istore 5, 2) := by decide +kernel
theorem d_M_answer_27 : decode prog_8_method_26_code 27 = .ok (.aload_n 0, 1) := by decide +kernel
theorem d_M_answer_28 : decode prog_8_method_26_code 28 = .ok (.getfield 21, 3) := by decide +kernel
theorem d_M_answer_31 : decode prog_8_method_26_code 31 = .ok (.iload 5, 2) := by decide +kernel
theorem d_M_answer_33 : decode prog_8_method_26_code 33 = .ok (.iaload, 1) := by decide +kernel
theorem d_M_answer_34 : decode prog_8_method_26_code 34 = .ok (.iload_n 3, 1) := by decide +kernel
theorem d_M_answer_35 : decode prog_8_method_26_code 35 = .ok (.if_icmp .ne 15, 3) := by decide +kernel
theorem d_M_answer_38 : decode prog_8_method_26_code 38 = .ok (.aload_n 0, 1) := by decide +kernel
theorem d_M_answer_39 : decode prog_8_method_26_code 39 = .ok (.getfield 24, 3) := by decide +kernel
theorem d_M_answer_42 : decode prog_8_method_26_code 42 = .ok (.iload 5, 2) := by decide +kernel
theorem d_M_answer_44 : decode prog_8_method_26_code 44 = .ok (.iaload, 1) := by decide +kernel
theorem d_M_answer_45 : decode prog_8_method_26_code 45 = .ok (.iload 4, 2) := by decide +kernel
theorem d_M_answer_47 : decode prog_8_method_26_code 47 = .ok (.if_icmp .eq 48, 3) := by decide +kernel
theorem d_M_answer_50 : decode prog_8_method_26_code 50 = .ok (.aload_n 0, 1) := by decide +kernel
theorem d_M_answer_51 : decode prog_8_method_26_code 51 = .ok (.iload_n 1, 1) := by decide +kernel
theorem d_M_answer_52 : decode prog_8_method_26_code 52 = .ok (.iload 4, 2) := by decide +kernel
theorem d_M_answer_54 : decode prog_8_method_26_code 54 = .ok (.invokevirtual 167, 3) := by decide +kernel
theorem d_M_answer_57 : decode prog_8_method_26_code 57 = .ok (.istore 5, 2) := by decide +kernel
theorem d_M_answer_59 : decode prog_8_method_26_code 59 = .ok (.aload_n 0, 1) := by decide +kernel
theorem d_M_answer_60 : decode prog_8_method_26_code 60 = .ok (.iconst 1, 1) := by decide +kernel
theorem d_M_answer_61 : decode prog_8_method_26_code 61 = .ok (.iload_n 1, 1) := by decide +kernel
theorem d_M_answer_62 : decode prog_8_method_26_code 62 = .ok (.iload_n 2, 1) := by decide +kernel
theorem d_M_answer_63 : decode prog_8_method_26_code 63 = .ok (.aload_n 0, 1) := by decide +kernel
theorem d_M_answer_64 : decode prog_8_method_26_code 64 = .ok (.getfield 42, 3) := by decide +kernel
theorem d_M_answer_67 : decode prog_8_method_26_code 67 = .ok (.iload_n 1, 1) := by decide +kernel
theorem d_M_answer_68 : decode prog_8_method_26_code 68 = .ok (.iaload, 1) := by decide +kernel
theorem d_M_answer_69 : decode prog_8_method_26_code 69 = .ok (.aload_n 0, 1) := by decide +kernel
theorem d_M_answer_70 : decode prog_8_method_26_code 70 = .ok (.getfield 90, 3) := by decide +kernel
theorem d_M_answer_73 : decode prog_8_method_26_code 73 = .ok (.iconst 4, 1) := by decide +kernel
theorem d_M_answer_74 : decode prog_8_method_26_code 74 = .ok (.iaload, 1) := by decide +kernel
theorem d_M_answer_75 : decode prog_8_method_26_code 75 = .ok (.aload_n 0, 1) := by decide +kernel
theorem d_M_answer_76 : decode prog_8_method_26_code 76 = .ok (.getfield 21, 3) := by decide +kernel
theorem d_M_answer_79 : decode prog_8_method_26_code 79 = .ok (.iload 5, 2) := by decide +kernel
theorem d_M_answer_81 : decode prog_8_method_26_code 81 = .ok (.iaload, 1) := by decide +kernel
theorem d_M_answer_82 : decode prog_8_method_26_code 82 = .ok (.aload_n 0, 1) := by decide +kernel
theorem d_M_answer_83 : decode prog_8_method_26_code 83 = .ok (.getfield 24, 3) := by decide +kernel
theorem d_M_answer_86 : decode prog_8_method_26_code 86 = .ok (.iload 5, 2) := by decide +kernel
theorem d_M_answer_88 : decode prog_8_method_26_code 88 = .ok (.iaload, 1) := by decide +kernel
theorem d_M_answer_89 : decode prog_8_method_26_code 89 = .ok (.invokevirtual 144, 3) := by decide +kernel
theorem d_M_answer_92 : decode prog_8_method_26_code 92 = .ok (.istore 6, 2) := by decide +kernel
theorem d_M_answer_94 : decode prog_8_method_26_code 94 = .ok (.return_, 1) := by decide +kernel
theorem d_M_answer_95 : decode prog_8_method_26_code 95 = .ok (.iconst 4, 1) := by decide +kernel
theorem d_M_answer_96 : decode prog_8_method_26_code 96 = .ok (.iload_n 1, 1) := by decide +kernel
theorem d_M_answer_97 : decode prog_8_method_26_code 97 = .ok (.imul, 1) := by decide +kernel
theorem d_M_answer_98 : decode prog_8_method_26_code 98 = .ok (.iload_n 2, 1) := by decide +kernel
theorem d_M_answer_99 : decode prog_8_method_26_code 99 = .ok (.iadd, 1) := by decide +kernel
theorem d_M_answer_100 : decode prog_8_method_26_code 100 = .ok (.istore 6, 2) := by decide +kernel
theorem d_M_answer_102 : decode prog_8_method_26_code 102 = .ok (.aload_n 0, 1) := by decide +kernel
theorem d_M_answer_103 : decode prog_8_method_26_code 103 = .ok (.getfield 57, 3) := by decide +kernel
theorem d_M_answer_106 : decode prog_8_method_26_code 106 = .ok (.iload 6, 2) := by decide +kernel
theorem d_M_answer_108 : decode prog_8_method_26_code 108 = .ok (.iload_n 3, 1) := by decide +kernel
theorem d_M_answer_109 : decode prog_8_method_26_code 109 = .ok (.aload_n 0, 1) := by decide +kernel
theorem d_M_answer_110 : decode prog_8_method_26_code 110 = .ok (.getfield 57, 3) := by decide +kernel
theorem d_M_answer_113 : decode prog_8_method_26_code 113 = .ok (.iload 6, 2) := by decide +kernel
theorem d_M_answer_115 : decode prog_8_method_26_code 115 = .ok (.iaload, 1) := by decide +kernel
theorem d_M_answer_116 : decode prog_8_method_26_code 116 = .ok (.if_icmp .le 7, 3) := by decide +kernel
theorem d_M_answer_119 : decode prog_8_method_26_code 119 = .ok (.iload_n 3, 1) := by decide +kernel
theorem d_M_answer_120 : decode prog_8_method_26_code 120 = .ok (.goto 10, 3) := by decide +kernel
theorem d_M_answer_123 : decode prog_8_method_26_code 123 = .ok (.aload_n 0, 1) := by decide +kernel
theorem d_M_answer_124 : decode prog_8_method_26_code 124 = .ok (.getfield 57, 3) := by decide +kernel
theorem d_M_answer_127 : decode prog_8_method_26_code 127 = .ok (.iload 6, 2) := by decide +kernel
theorem d_M_answer_129 : decode prog_8_method_26_code 129 = .ok (.iaload, 1) := by decide +kernel
theorem d_M_answer_130 : decode prog_8_method_26_code 130 = .ok (.iastore, 1) := by decide +kernel
theorem d_M_answer_131 : decode prog_8_method_26_code 131 = .ok (.aload_n 0, 1) := by decide +kernel
theorem d_M_answer_132 : decode prog_8_method_26_code 132 = .ok (.getfield 60, 3) := by decide +kernel
theorem d_M_answer_135 : decode prog_8_method_26_code 135 = .ok (.iload 6, 2) := by decide +kernel
theorem d_M_answer_137 : decode prog_8_method_26_code 137 = .ok (.iload 5, 2) := by decide +kernel
theorem d_M_answer_139 : decode prog_8_method_26_code 139 = .ok (.aload_n 0, 1) := by decide +kernel
theorem d_M_answer_140 : decode prog_8_method_26_code 140 = .ok (.getfield 33, 3) := by decide +kernel
theorem d_M_answer_143 : decode prog_8_method_26_code 143 = .ok (.iload_n 1, 1) := by decide +kernel
theorem d_M_answer_144 : decode prog_8_method_26_code 144 = .ok (.iaload, 1) := by decide +kernel
theorem d_M_answer_145 : decode prog_8_method_26_code 145 = .ok (.if_icmp .ne 10, 3) := by decide +kernel
theorem d_M_answer_148 : decode prog_8_method_26_code 148 = .ok (.aload_n 0, 1) := by decide +kernel
theorem d_M_answer_149 : decode prog_8_method_26_code 149 = .ok (.getfield 110, 3) := by decide +kernel
theorem d_M_answer_152 : decode prog_8_method_26_code 152 = .ok (.goto 10, 3) := by decide +kernel
theorem d_M_answer_155 : decode prog_8_method_26_code 155 = .ok (.aload_n 0, 1) := by decide +kernel
theorem d_M_answer_156 : decode prog_8_method_26_code 156 = .ok (.getfield 60, 3) := by decide +kernel
theorem d_M_answer_159 : decode prog_8_method_26_code 159 = .ok (.iload 6, 2) := by decide +kernel
theorem d_M_answer_161 : decode prog_8_method_26_code 161 = .ok (.iaload, 1) := by decide +kernel
theorem d_M_answer_162 : decode prog_8_method_26_code 162 = .ok (.iastore, 1) := by decide +kernel
theorem d_M_answer_163 : decode prog_8_method_26_code 163 = .ok (.aload_n 0, 1) := by decide +kernel
theorem d_M_answer_164 : decode prog_8_method_26_code 164 = .ok (.iload_n 1, 1) := by decide +kernel
theorem d_M_answer_165 : decode prog_8_method_26_code 165 = .ok (.invokevirtual 120, 3) := by decide +kernel
theorem d_M_answer_168 : decode prog_8_method_26_code 168 = .ok (.iload_n 3, 1) := by decide +kernel
theorem d_M_answer_169 : decode prog_8_method_26_code 169 = .ok (.aload_n 0, 1) := by decide +kernel
theorem d_M_answer_170 : decode prog_8_method_26_code 170 = .ok (.getfield 96, 3) := by decide +kernel
theorem d_M_answer_173 : decode prog_8_method_26_code 173 = .ok (.iadd, 1) := by decide +kernel
theorem d_M_answer_174 : decode prog_8_method_26_code 174 = .ok (.aload_n 0, 1) := by decide +kernel
theorem d_M_answer_175 : decode prog_8_method_26_code 175 = .ok (.getfield 21, 3) := by decide +kernel
theorem d_M_answer_178 : decode prog_8_method_26_code 178 = .ok (.aload_n 0, 1) := by decide +kernel
theorem d_M_answer_179 : decode prog_8_method_26_code 179 = .ok (.getfield 33, 3) := by decide +kernel
theorem d_M_answer_182 : decode prog_8_method_26_code 182 = .ok (.iload_n 1, 1) := by decide +kernel
theorem d_M_answer_183 : decode prog_8_method_26_code 183 = .ok (.iaload, 1) := by decide +kernel
theorem d_M_answer_184 : decode prog_8_method_26_code 184 = .ok (.iaload, 1) := by decide +kernel
theorem d_M_answer_185 : decode prog_8_method_26_code 185 = .ok (.if_icmp .ge 12, 3) := by decide +kernel
theorem d_M_answer_188 : decode prog_8_method_26_code 188 = .ok (.iload_n 3, 1) := by decide +kernel
theorem d_M_answer_189 : decode prog_8_method_26_code 189 = .ok (.aload_n 0, 1) := by decide +kernel
theorem d_M_answer_190 : decode prog_8_method_26_code 190 = .ok (.getfield 96, 3) := by decide +kernel
theorem d_M_answer_193 : decode prog_8_method_26_code 193 = .ok (.iadd, 1) := by decide +kernel
theorem d_M_answer_194 : decode prog_8_method_26_code 194 = .ok (.goto 14, 3) := by decide +kernel
theorem d_M_answer_197 : decode prog_8_method_26_code 197 = .ok (.aload_n 0, 1) := by decide +kernel
theorem d_M_answer_198 : decode prog_8_method_26_code 198 = .ok (.getfield 21, 3) := by decide +kernel
theorem d_M_answer_201 : decode prog_8_method_26_code 201 = .ok (.aload_n 0, 1) := by decide +kernel
theorem d_M_answer_202 : decode prog_8_method_26_code 202 = .ok (.getfield 33, 3) := by decide +kernel
theorem d_M_answer_205 : decode prog_8_method_26_code 205 = .ok (.iload_n 1, 1) := by decide +kernel
theorem d_M_answer_206 : decode prog_8_method_26_code 206 = .ok (.iaload, 1) := by decide +kernel
theorem d_M_answer_207 : decode prog_8_method_26_code 207 = .ok (.iaload, 1) := by decide +kernel
theorem d_M_answer_208 : decode prog_8_method_26_code 208 = .ok (.istore 7, 2) := by decide +kernel
theorem d_M_answer_210 : decode prog_8_method_26_code 210 = .ok (.aload_n 0, 1) := by decide +kernel
theorem d_M_answer_211 : decode prog_8_method_26_code 211 = .ok (.iconst 2, 1) := by decide +kernel
theorem d_M_answer_212 : decode prog_8_method_26_code 212 = .ok (.iload_n 1, 1) := by decide +kernel
theorem d_M_answer_213 : decode prog_8_method_26_code 213 = .ok (.iload_n 2, 1) := by decide +kernel
theorem d_M_answer_214 : decode prog_8_method_26_code 214 = .ok (.aload_n 0, 1) := by decide +kernel
theorem d_M_answer_215 : decode prog_8_method_26_code 215 = .ok (.getfield 42, 3) := by decide +kernel
theorem d_M_answer_218 : decode prog_8_method_26_code 218 = .ok (.iload_n 1, 1) := by decide +kernel
theorem d_M_answer_219 : decode prog_8_method_26_code 219 = .ok (.iaload, 1) := by decide +kernel
theorem d_M_answer_220 : decode prog_8_method_26_code 220 = .ok (.aload_n 0, 1) := by decide +kernel
theorem d_M_answer_221 : decode prog_8_method_26_code 221 = .ok (.getfield 90, 3) := by decide +kernel
theorem d_M_answer_224 : decode prog_8_method_26_code 224 = .ok (.iconst 4, 1) := by decide +kernel
theorem d_M_answer_225 : decode prog_8_method_26_code 225 = .ok (.iaload, 1) := by decide +kernel
theorem d_M_answer_226 : decode prog_8_method_26_code 226 = .ok (.iload 7, 2) := by decide +kernel
theorem d_M_answer_228 : decode prog_8_method_26_code 228 = .ok (.iload_n 3, 1) := by decide +kernel
theorem d_M_answer_229 : decode prog_8_method_26_code 229 = .ok (.isub, 1) := by decide +kernel
theorem d_M_answer_230 : decode prog_8_method_26_code 230 = .ok (.aload_n 0, 1) := by decide +kernel
theorem d_M_answer_231 : decode prog_8_method_26_code 231 = .ok (.getfield 36, 3) := by decide +kernel
theorem d_M_answer_234 : decode prog_8_method_26_code 234 = .ok (.iload_n 1, 1) := by decide +kernel
theorem d_M_answer_235 : decode prog_8_method_26_code 235 = .ok (.iaload, 1) := by decide +kernel
theorem d_M_answer_236 : decode prog_8_method_26_code 236 = .ok (.invokevirtual 144, 3) := by decide +kernel
theorem d_M_answer_239 : decode prog_8_method_26_code 239 = .ok (.ifCond .eq 21, 3) := by decide +kernel
theorem d_M_answer_242 : decode prog_8_method_26_code 242 = .ok (.aload_n 0, 1) := by decide +kernel
theorem d_M_answer_243 : decode prog_8_method_26_code 243 = .ok (.getfield 87, 3) := by decide +kernel
theorem d_M_answer_246 : decode prog_8_method_26_code 246 = .ok (.aload_n 0, 1) := by decide +kernel
theorem d_M_answer_247 : decode prog_8_method_26_code 247 = .ok (.getfield 137, 3) := by decide +kernel
theorem d_M_answer_250 : decode prog_8_method_26_code 250 = .ok (.iconst 1, 1) := by decide +kernel
theorem d_M_answer_251 : decode prog_8_method_26_code 251 = .ok (.isub, 1) := by decide +kernel
theorem d_M_answer_252 : decode prog_8_method_26_code 252 = .ok (.aload_n 0, 1) := by decide +kernel
theorem d_M_answer_253 : decode prog_8_method_26_code 253 = .ok (.iload_n 1, 1) := by decide +kernel
theorem d_M_answer_254 : decode prog_8_method_26_code 254 = .ok (.iload 7, 2) := by decide +kernel
theorem d_M_answer_256 : decode prog_8_method_26_code 256 = .ok (.invokevirtual 130, 3) := by decide +kernel
theorem d_M_answer_259 : decode prog_8_method_26_code 259 = .ok (.iastore, 1) := by decide +kernel
theorem d_M_answer_260 : decode prog_8_method_26_code 260 = .ok (.return_, 1) := by decide +kernel
theorem d_M_underEpoch_0 : decode prog_8_method_8_code 0 = .ok (.aload_n 0, 1) := by decide +kernel
theorem d_M_underEpoch_1 : decode prog_8_method_8_code 1 = .ok (.getfield 33, 3) := by decide +kernel
theorem d_M_underEpoch_4 : decode prog_8_method_8_code 4 = .ok (.iload_n 1, 1) := by decide +kernel
theorem d_M_underEpoch_5 : decode prog_8_method_8_code 5 = .ok (.iaload, 1) := by decide +kernel
theorem d_M_underEpoch_6 : decode prog_8_method_8_code 6 = .ok (.istore_n 3, 1) := by decide +kernel
theorem d_M_underEpoch_7 : decode prog_8_method_8_code 7 = .ok (.iload_n 3, 1) := by decide +kernel
theorem d_M_underEpoch_8 : decode prog_8_method_8_code 8 = .ok (.ifCond .le 23, 3) := by decide +kernel
theorem d_M_underEpoch_11 : decode prog_8_method_8_code 11 = .ok (.aload_n 0, 1) := by decide +kernel
theorem d_M_underEpoch_12 : decode prog_8_method_8_code 12 = .ok (.getfield 24, 3) := by decide +kernel
theorem d_M_underEpoch_15 : decode prog_8_method_8_code 15 = .ok (.iload_n 3, 1) := by decide +kernel
theorem d_M_underEpoch_16 : decode prog_8_method_8_code 16 = .ok (.iaload, 1) := by decide +kernel
theorem d_M_underEpoch_17 : decode prog_8_method_8_code 17 = .ok (.iload_n 2, 1) := by decide +kernel
theorem d_M_underEpoch_18 : decode prog_8_method_8_code 18 = .ok (.if_icmp .le 13, 3) := by decide +kernel
theorem d_M_underEpoch_21 : decode prog_8_method_8_code 21 = .ok (.aload_n 0, 1) := by decide +kernel
theorem d_M_underEpoch_22 : decode prog_8_method_8_code 22 = .ok (.getfield 17, 3) := by decide +kernel
theorem d_M_underEpoch_25 : decode prog_8_method_8_code 25 = .ok (.iload_n 3, 1) := by decide +kernel
theorem d_M_underEpoch_26 : decode prog_8_method_8_code 26 = .ok (.iaload, 1) := by decide +kernel
theorem d_M_underEpoch_27 : decode prog_8_method_8_code 27 = .ok (.istore_n 3, 1) := by decide +kernel
theorem d_M_underEpoch_28 : decode prog_8_method_8_code 28 = .ok (.goto (-21), 3) := by decide +kernel
theorem d_M_underEpoch_31 : decode prog_8_method_8_code 31 = .ok (.iload_n 3, 1) := by decide +kernel
theorem d_M_underEpoch_32 : decode prog_8_method_8_code 32 = .ok (.ireturn, 1) := by decide +kernel
theorem d_M_cut_0 : decode prog_8_method_27_code 0 = .ok (.aload_n 0, 1) := by decide +kernel
theorem d_M_cut_1 : decode prog_8_method_27_code 1 = .ok (.iload_n 1, 1) := by decide +kernel
theorem d_M_cut_2 : decode prog_8_method_27_code 2 = .ok (.aload_n 0, 1) := by decide +kernel
theorem d_M_cut_3 : decode prog_8_method_27_code 3 = .ok (.getfield 90, 3) := by decide +kernel
theorem d_M_cut_6 : decode prog_8_method_27_code 6 = .ok (.bipush 6, 2) := by decide +kernel
theorem d_M_cut_8 : decode prog_8_method_27_code 8 = .ok (.iaload, 1) := by decide +kernel
theorem d_M_cut_9 : decode prog_8_method_27_code 9 = .ok (.invokevirtual 167, 3) := by decide +kernel
theorem d_M_cut_12 : decode prog_8_method_27_code 12 = .ok (.istore_n 2, 1) := by decide +kernel
theorem d_M_cut_13 : decode prog_8_method_27_code 13 = .ok (.aload_n 0, 1) := by decide +kernel
theorem d_M_cut_14 : decode prog_8_method_27_code 14 = .ok (.getfield 33, 3) := by decide +kernel
theorem d_M_cut_17 : decode prog_8_method_27_code 17 = .ok (.iload_n 1, 1) := by decide +kernel
theorem d_M_cut_18 : decode prog_8_method_27_code 18 = .ok (.aload_n 0, 1) := by decide +kernel
theorem d_M_cut_19 : decode prog_8_method_27_code 19 = .ok (.getfield 21, 3) := by decide +kernel
theorem d_M_cut_22 : decode prog_8_method_27_code 22 = .ok (.iload_n 2, 1) := by decide +kernel
theorem d_M_cut_23 : decode prog_8_method_27_code 23 = .ok (.iaload, 1) := by decide +kernel
theorem d_M_cut_24 : decode prog_8_method_27_code 24 = .ok (.aload_n 0, 1) := by decide +kernel
theorem d_M_cut_25 : decode prog_8_method_27_code 25 = .ok (.getfield 90, 3) := by decide +kernel
theorem d_M_cut_28 : decode prog_8_method_27_code 28 = .ok (.iconst 5, 1) := by decide +kernel
theorem d_M_cut_29 : decode prog_8_method_27_code 29 = .ok (.iaload, 1) := by decide +kernel
theorem d_M_cut_30 : decode prog_8_method_27_code 30 = .ok (.if_icmp .ge 7, 3) := by decide +kernel
theorem d_M_cut_33 : decode prog_8_method_27_code 33 = .ok (.iload_n 2, 1) := by decide +kernel
theorem d_M_cut_34 : decode prog_8_method_27_code 34 = .ok (.goto 14, 3) := by decide +kernel
theorem d_M_cut_37 : decode prog_8_method_27_code 37 = .ok (.aload_n 0, 1) := by decide +kernel
theorem d_M_cut_38 : decode prog_8_method_27_code 38 = .ok (.iload_n 1, 1) := by decide +kernel
theorem d_M_cut_39 : decode prog_8_method_27_code 39 = .ok (.aload_n 0, 1) := by decide +kernel
theorem d_M_cut_40 : decode prog_8_method_27_code 40 = .ok (.getfield 90, 3) := by decide +kernel
theorem d_M_cut_43 : decode prog_8_method_27_code 43 = .ok (.iconst 5, 1) := by decide +kernel
theorem d_M_cut_44 : decode prog_8_method_27_code 44 = .ok (.iaload, 1) := by decide +kernel
theorem d_M_cut_45 : decode prog_8_method_27_code 45 = .ok (.invokevirtual 130, 3) := by decide +kernel
theorem d_M_cut_48 : decode prog_8_method_27_code 48 = .ok (.iastore, 1) := by decide +kernel
theorem d_M_cut_49 : decode prog_8_method_27_code 49 = .ok (.return_, 1) := by decide +kernel
theorem d_M_extend_0 : decode prog_8_method_28_code 0 = .ok (.aload_n 0, 1) := by decide +kernel
theorem d_M_extend_1 : decode prog_8_method_28_code 1 = .ok (.getfield 33, 3) := by decide +kernel
theorem d_M_extend_4 : decode prog_8_method_28_code 4 = .ok (.iload_n 1, 1) := by decide +kernel
theorem d_M_extend_5 : decode prog_8_method_28_code 5 = .ok (.aload_n 0, 1) := by decide +kernel
theorem d_M_extend_6 : decode prog_8_method_28_code 6 = .ok (.getfield 90, 3) := by decide +kernel
theorem d_M_extend_9 : decode prog_8_method_28_code 9 = .ok (.iconst 5, 1) := by decide +kernel
theorem d_M_extend_10 : decode prog_8_method_28_code 10 = .ok (.iaload, 1) := by decide +kernel
theorem d_M_extend_11 : decode prog_8_method_28_code 11 = .ok (.ifCond .le 13, 3) := by decide +kernel
theorem d_M_extend_14 : decode prog_8_method_28_code 14 = .ok (.aload_n 0, 1) := by decide +kernel
theorem d_M_extend_15 : decode prog_8_method_28_code 15 = .ok (.getfield 90, 3) := by decide +kernel
theorem d_M_extend_18 : decode prog_8_method_28_code 18 = .ok (.bipush 7, 2) := by decide +kernel
theorem d_M_extend_20 : decode prog_8_method_28_code 20 = .ok (.iaload, 1) := by decide +kernel
theorem d_M_extend_21 : decode prog_8_method_28_code 21 = .ok (.goto 9, 3) := by decide +kernel
theorem d_M_extend_24 : decode prog_8_method_28_code 24 = .ok (.aload_n 0, 1) := by decide +kernel
theorem d_M_extend_25 : decode prog_8_method_28_code 25 = .ok (.getfield 33, 3) := by decide +kernel
theorem d_M_extend_28 : decode prog_8_method_28_code 28 = .ok (.iload_n 1, 1) := by decide +kernel
theorem d_M_extend_29 : decode prog_8_method_28_code 29 = .ok (.iaload, 1) := by decide +kernel
theorem d_M_extend_30 : decode prog_8_method_28_code 30 = .ok (.iastore, 1) := by decide +kernel
theorem d_M_extend_31 : decode prog_8_method_28_code 31 = .ok (.aload_n 0, 1) := by decide +kernel
theorem d_M_extend_32 : decode prog_8_method_28_code 32 = .ok (.getfield 21, 3) := by decide +kernel
theorem d_M_extend_35 : decode prog_8_method_28_code 35 = .ok (.aload_n 0, 1) := by decide +kernel
theorem d_M_extend_36 : decode prog_8_method_28_code 36 = .ok (.getfield 33, 3) := by decide +kernel
theorem d_M_extend_39 : decode prog_8_method_28_code 39 = .ok (.iload_n 1, 1) := by decide +kernel
theorem d_M_extend_40 : decode prog_8_method_28_code 40 = .ok (.iaload, 1) := by decide +kernel
theorem d_M_extend_41 : decode prog_8_method_28_code 41 = .ok (.iaload, 1) := by decide +kernel
theorem d_M_extend_42 : decode prog_8_method_28_code 42 = .ok (.istore_n 2, 1) := by decide +kernel
theorem d_M_extend_43 : decode prog_8_method_28_code 43 = .ok (.aload_n 0, 1) := by decide +kernel
theorem d_M_extend_44 : decode prog_8_method_28_code 44 = .ok (.getfield 90, 3) := by decide +kernel
theorem d_M_extend_47 : decode prog_8_method_28_code 47 = .ok (.bipush 6, 2) := by decide +kernel
theorem d_M_extend_49 : decode prog_8_method_28_code 49 = .ok (.iaload, 1) := by decide +kernel
theorem d_M_extend_50 : decode prog_8_method_28_code 50 = .ok (.iload_n 2, 1) := by decide +kernel
theorem d_M_extend_51 : decode prog_8_method_28_code 51 = .ok (.if_icmp .ge 13, 3) := by decide +kernel
theorem d_M_extend_54 : decode prog_8_method_28_code 54 = .ok (.aload_n 0, 1) := by decide +kernel
theorem d_M_extend_55 : decode prog_8_method_28_code 55 = .ok (.getfield 90, 3) := by decide +kernel
theorem d_M_extend_58 : decode prog_8_method_28_code 58 = .ok (.bipush 6, 2) := by decide +kernel
theorem d_M_extend_60 : decode prog_8_method_28_code 60 = .ok (.iaload, 1) := by decide +kernel
theorem d_M_extend_61 : decode prog_8_method_28_code 61 = .ok (.goto 4, 3) := by decide +kernel
theorem d_M_extend_64 : decode prog_8_method_28_code 64 = .ok (.iload_n 2, 1) := by decide +kernel
theorem d_M_extend_65 : decode prog_8_method_28_code 65 = .ok (.istore_n 3, 1) := by decide +kernel
theorem d_M_extend_66 : decode prog_8_method_28_code 66 = .ok (.aload_n 0, 1) := by decide +kernel
theorem d_M_extend_67 : decode prog_8_method_28_code 67 = .ok (.getfield 36, 3) := by decide +kernel
theorem d_M_extend_70 : decode prog_8_method_28_code 70 = .ok (.iload_n 1, 1) := by decide +kernel
theorem d_M_extend_71 : decode prog_8_method_28_code 71 = .ok (.iload_n 3, 1) := by decide +kernel
theorem d_M_extend_72 : decode prog_8_method_28_code 72 = .ok (.aload_n 0, 1) := by decide +kernel
theorem d_M_extend_73 : decode prog_8_method_28_code 73 = .ok (.getfield 36, 3) := by decide +kernel
theorem d_M_extend_76 : decode prog_8_method_28_code 76 = .ok (.iload_n 1, 1) := by decide +kernel
theorem d_M_extend_77 : decode prog_8_method_28_code 77 = .ok (.iaload, 1) := by decide +kernel
theorem d_M_extend_78 : decode prog_8_method_28_code 78 = .ok (.if_icmp .le 7, 3) := by decide +kernel
theorem d_M_extend_81 : decode prog_8_method_28_code 81 = .ok (.iload_n 3, 1) := by decide +kernel
theorem d_M_extend_82 : decode prog_8_method_28_code 82 = .ok (.goto 9, 3) := by decide +kernel
theorem d_M_extend_85 : decode prog_8_method_28_code 85 = .ok (.aload_n 0, 1) := by decide +kernel
theorem d_M_extend_86 : decode prog_8_method_28_code 86 = .ok (.getfield 36, 3) := by decide +kernel
theorem d_M_extend_89 : decode prog_8_method_28_code 89 = .ok (.iload_n 1, 1) := by decide +kernel
theorem d_M_extend_90 : decode prog_8_method_28_code 90 = .ok (.iaload, 1) := by decide +kernel
theorem d_M_extend_91 : decode prog_8_method_28_code 91 = .ok (.iastore, 1) := by decide +kernel
theorem d_M_extend_92 : decode prog_8_method_28_code 92 = .ok (.return_, 1) := by decide +kernel
theorem d_M_review_0 : decode prog_8_method_30_code 0 = .ok (.aload_n 0, 1) := by decide +kernel
theorem d_M_review_1 : decode prog_8_method_30_code 1 = .ok (.iload_n 1, 1) := by decide +kernel
theorem d_M_review_2 : decode prog_8_method_30_code 2 = .ok (.invokevirtual 123, 3) := by decide +kernel
theorem d_M_review_5 : decode prog_8_method_30_code 5 = .ok (.ifCond .ne 5, 3) := by decide +kernel
theorem d_M_review_8 : decode prog_8_method_30_code 8 = .ok (.iconst (-1), 1) := by decide +kernel
theorem d_M_review_9 : decode prog_8_method_30_code 9 = .ok (.ireturn, 1) := by decide +kernel
theorem d_M_review_10 : decode prog_8_method_30_code 10 = .ok (.aload_n 0, 1) := by decide +kernel
theorem d_M_review_11 : decode prog_8_method_30_code 11 = .ok (.getfield 42, 3) := by decide +kernel
theorem d_M_review_14 : decode prog_8_method_30_code 14 = .ok (.iload_n 1, 1) := by decide +kernel
theorem d_M_review_15 : decode prog_8_method_30_code 15 = .ok (.iaload, 1) := by decide +kernel
theorem d_M_review_16 : decode prog_8_method_30_code 16 = .ok (.aload_n 0, 1) := by decide +kernel
theorem d_M_review_17 : decode prog_8_method_30_code 17 = .ok (.getfield 7, 3) := by decide +kernel
theorem d_M_review_20 : decode prog_8_method_30_code 20 = .ok (.if_icmp .eq 5, 3) := by decide +kernel
theorem d_M_review_23 : decode prog_8_method_30_code 23 = .ok (.iconst (-1), 1) := by decide +kernel
theorem d_M_review_24 : decode prog_8_method_30_code 24 = .ok (.ireturn, 1) := by decide +kernel
theorem d_M_review_25 : decode prog_8_method_30_code 25 = .ok (.iconst 0, 1) := by decide +kernel
theorem d_M_review_26 : decode prog_8_method_30_code 26 = .ok (.istore_n 2, 1) := by decide +kernel
theorem d_M_review_27 : decode prog_8_method_30_code 27 = .ok (.iload_n 2, 1) := by decide +kernel
theorem d_M_review_28 : decode prog_8_method_30_code 28 = .ok (.iconst 4, 1) := by decide +kernel
theorem d_M_review_29 : decode prog_8_method_30_code 29 = .ok (.if_icmp .ge 112, 3) := by decide +kernel
theorem d_M_review_32 : decode prog_8_method_30_code 32 = .ok (.iconst 4, 1) := by decide +kernel
theorem d_M_review_33 : decode prog_8_method_30_code 33 = .ok (.iload_n 1, 1) := by decide +kernel
theorem d_M_review_34 : decode prog_8_method_30_code 34 = .ok (.imul, 1) := by decide +kernel
theorem d_M_review_35 : decode prog_8_method_30_code 35 = .ok (.iload_n 2, 1) := by decide +kernel
theorem d_M_review_36 : decode prog_8_method_30_code 36 = .ok (.iadd, 1) := by decide +kernel
theorem d_M_review_37 : decode prog_8_method_30_code 37 = .ok (.istore_n 3, 1) := by decide +kernel
theorem d_M_review_38 : decode prog_8_method_30_code 38 = .ok (.aload_n 0, 1) := by decide +kernel
theorem d_M_review_39 : decode prog_8_method_30_code 39 = .ok (.getfield 110, 3) := by decide +kernel
theorem d_M_review_42 : decode prog_8_method_30_code 42 = .ok (.aload_n 0, 1) := by decide +kernel
theorem d_M_review_43 : decode prog_8_method_30_code 43 = .ok (.getfield 60, 3) := by decide +kernel
theorem d_M_review_46 : decode prog_8_method_30_code 46 = .ok (.iload_n 3, 1) := by decide +kernel
theorem d_M_review_47 : decode prog_8_method_30_code 47 = .ok (.iaload, 1) := by decide +kernel
theorem d_M_review_48 : decode prog_8_method_30_code 48 = .ok (.isub, 1) := by decide +kernel
theorem d_M_review_49 : decode prog_8_method_30_code 49 = .ok (.aload_n 0, 1) := by decide +kernel
theorem d_M_review_50 : decode prog_8_method_30_code 50 = .ok (.getfield 93, 3) := by decide +kernel
theorem d_M_review_53 : decode prog_8_method_30_code 53 = .ok (.if_icmp .gt 7, 3) := by decide +kernel
theorem d_M_review_56 : decode prog_8_method_30_code 56 = .ok (.iconst 1, 1) := by decide +kernel
theorem d_M_review_57 : decode prog_8_method_30_code 57 = .ok (.goto 4, 3) := by decide +kernel
theorem d_M_review_60 : decode prog_8_method_30_code 60 = .ok (.iconst 0, 1) := by decide +kernel
theorem d_M_review_61 : decode prog_8_method_30_code 61 = .ok (.istore 4, 2) := by decide +kernel
theorem d_M_review_63 : decode prog_8_method_30_code 63 = .ok (.iload_n 2, 1) := by decide +kernel
theorem d_M_review_64 : decode prog_8_method_30_code 64 = .ok (.iload_n 1, 1) := by decide +kernel
theorem d_M_review_65 : decode prog_8_method_30_code 65 = .ok (.if_icmp .eq 47, 3) := by decide +kernel
theorem d_M_review_68 : decode prog_8_method_30_code 68 = .ok (.iload 4, 2) := by decide +kernel
theorem d_M_review_70 : decode prog_8_method_30_code 70 = .ok (.ifCond .eq 46, 3) := by decide +kernel
theorem d_M_review_73 : decode prog_8_method_30_code 73 = .ok (.aload_n 0, 1) := by decide +kernel
theorem d_M_review_74 : decode prog_8_method_30_code 74 = .ok (.getfield 54, 3) := by decide +kernel
theorem d_M_review_77 : decode prog_8_method_30_code 77 = .ok (.iload_n 3, 1) := by decide +kernel
theorem d_M_review_78 : decode prog_8_method_30_code 78 = .ok (.baload, 1) := by decide +kernel
theorem d_M_review_79 : decode prog_8_method_30_code 79 = .ok (.ifCond .ne 33, 3) := by decide +kernel
theorem d_M_review_82 : decode prog_8_method_30_code 82 = .ok (.aload_n 0, 1) := by decide +kernel
theorem d_M_review_83 : decode prog_8_method_30_code 83 = .ok (.getfield 57, 3) := by decide +kernel
theorem d_M_review_86 : decode prog_8_method_30_code 86 = .ok (.iload_n 3, 1) := by decide +kernel
theorem d_M_review_87 : decode prog_8_method_30_code 87 = .ok (.iaload, 1) := by decide +kernel
theorem d_M_review_88 : decode prog_8_method_30_code 88 = .ok (.aload_n 0, 1) := by decide +kernel
theorem d_M_review_89 : decode prog_8_method_30_code 89 = .ok (.getfield 36, 3) := by decide +kernel
theorem d_M_review_92 : decode prog_8_method_30_code 92 = .ok (.iload_n 1, 1) := by decide +kernel
theorem d_M_review_93 : decode prog_8_method_30_code 93 = .ok (.iaload, 1) := by decide +kernel
theorem d_M_review_94 : decode prog_8_method_30_code 94 = .ok (.if_icmp .lt 22, 3) := by decide +kernel
theorem d_M_review_97 : decode prog_8_method_30_code 97 = .ok (.aload_n 0, 1) := by decide +kernel
theorem d_M_review_98 : decode prog_8_method_30_code 98 = .ok (.getfield 57, 3) := by decide +kernel
theorem d_M_review_101 : decode prog_8_method_30_code 101 = .ok (.iload_n 3, 1) := by decide +kernel
theorem d_M_review_102 : decode prog_8_method_30_code 102 = .ok (.iaload, 1) := by decide +kernel
theorem d_M_review_103 : decode prog_8_method_30_code 103 = .ok (.aload_n 0, 1) := by decide +kernel
theorem d_M_review_104 : decode prog_8_method_30_code 104 = .ok (.getfield 63, 3) := by decide +kernel
theorem d_M_review_107 : decode prog_8_method_30_code 107 = .ok (.iload_n 1, 1) := by decide +kernel
theorem d_M_review_108 : decode prog_8_method_30_code 108 = .ok (.iaload, 1) := by decide +kernel
theorem d_M_review_109 : decode prog_8_method_30_code 109 = .ok (.if_icmp .lt 7, 3) := by decide +kernel
theorem d_M_review_112 : decode prog_8_method_30_code 112 = .ok (.iconst 1, 1) := by decide +kernel
theorem d_M_review_113 : decode prog_8_method_30_code 113 = .ok (.goto 4, 3) := by decide +kernel
theorem d_M_review_116 : decode prog_8_method_30_code 116 = .ok (.iconst 0, 1) := by decide +kernel
theorem d_M_review_117 : decode prog_8_method_30_code 117 = .ok (.istore 5, 2) := by decide +kernel
theorem d_M_review_119 : decode prog_8_method_30_code 119 = .ok (.aload_n 0, 1) := by decide +kernel
theorem d_M_review_120 : decode prog_8_method_30_code 120 = .ok (.getfield 54, 3) := by decide +kernel
theorem d_M_review_123 : decode prog_8_method_30_code 123 = .ok (.iload_n 3, 1) := by decide +kernel
theorem d_M_review_124 : decode prog_8_method_30_code 124 = .ok (.iload 5, 2) := by decide +kernel
theorem d_M_review_126 : decode prog_8_method_30_code 126 = .ok (.bastore, 1) := by decide +kernel
theorem d_M_review_127 : decode prog_8_method_30_code 127 = .ok (.aload_n 0, 1) := by decide +kernel
theorem d_M_review_128 : decode prog_8_method_30_code 128 = .ok (.getfield 13, 3) := by decide +kernel
theorem d_M_review_131 : decode prog_8_method_30_code 131 = .ok (.iload_n 2, 1) := by decide +kernel
theorem d_M_review_132 : decode prog_8_method_30_code 132 = .ok (.iload 5, 2) := by decide +kernel
theorem d_M_review_134 : decode prog_8_method_30_code 134 = .ok (.bastore, 1) := by decide +kernel
theorem d_M_review_135 : decode prog_8_method_30_code 135 = .ok (.iinc 2 1, 3) := by decide +kernel
theorem d_M_review_138 : decode prog_8_method_30_code 138 = .ok (.goto (-111), 3) := by decide +kernel
theorem d_M_review_141 : decode prog_8_method_30_code 141 = .ok (.aload_n 0, 1) := by decide +kernel
theorem d_M_review_142 : decode prog_8_method_30_code 142 = .ok (.iload_n 1, 1) := by decide +kernel
theorem d_M_review_143 : decode prog_8_method_30_code 143 = .ok (.invokevirtual 120, 3) := by decide +kernel
theorem d_M_review_146 : decode prog_8_method_30_code 146 = .ok (.aload_n 0, 1) := by decide +kernel
theorem d_M_review_147 : decode prog_8_method_30_code 147 = .ok (.iconst 1, 1) := by decide +kernel
theorem d_M_review_148 : decode prog_8_method_30_code 148 = .ok (.iconst 0, 1) := by decide +kernel
theorem d_M_review_149 : decode prog_8_method_30_code 149 = .ok (.invokevirtual 170, 3) := by decide +kernel
theorem d_M_review_152 : decode prog_8_method_30_code 152 = .ok (.ireturn, 1) := by decide +kernel
theorem d_M_bits_0 : decode prog_8_method_29_code 0 = .ok (.iconst 0, 1) := by decide +kernel
theorem d_M_bits_1 : decode prog_8_method_29_code 1 = .ok (.istore_n 3, 1) := by decide +kernel
theorem d_M_bits_2 : decode prog_8_method_29_code 2 = .ok (.iconst 3, 1) := by decide +kernel
theorem d_M_bits_3 : decode prog_8_method_29_code 3 = .ok (.istore 4, 2) := by decide +kernel
theorem d_M_bits_5 : decode prog_8_method_29_code 5 = .ok (.iload 4, 2) := by decide +kernel
theorem d_M_bits_7 : decode prog_8_method_29_code 7 = .ok (.ifCond .lt 51, 3) := by decide +kernel
theorem d_M_bits_10 : decode prog_8_method_29_code 10 = .ok (.iload_n 1, 1) := by decide +kernel
theorem d_M_bits_11 : decode prog_8_method_29_code 11 = .ok (.ifCond .eq 13, 3) := by decide +kernel
theorem d_M_bits_14 : decode prog_8_method_29_code 14 = .ok (.aload_n 0, 1) := by decide +kernel
theorem d_M_bits_15 : decode prog_8_method_29_code 15 = .ok (.getfield 13, 3) := by decide +kernel
theorem d_M_bits_18 : decode prog_8_method_29_code 18 = .ok (.iload 4, 2) := by decide +kernel
theorem d_M_bits_20 : decode prog_8_method_29_code 20 = .ok (.baload, 1) := by decide +kernel
theorem d_M_bits_21 : decode prog_8_method_29_code 21 = .ok (.goto 14, 3) := by decide +kernel
theorem d_M_bits_24 : decode prog_8_method_29_code 24 = .ok (.aload_n 0, 1) := by decide +kernel
theorem d_M_bits_25 : decode prog_8_method_29_code 25 = .ok (.getfield 54, 3) := by decide +kernel
theorem d_M_bits_28 : decode prog_8_method_29_code 28 = .ok (.iconst 4, 1) := by decide +kernel
theorem d_M_bits_29 : decode prog_8_method_29_code 29 = .ok (.iload_n 2, 1) := by decide +kernel
theorem d_M_bits_30 : decode prog_8_method_29_code 30 = .ok (.imul, 1) := by decide +kernel
theorem d_M_bits_31 : decode prog_8_method_29_code 31 = .ok (.iload 4, 2) := by decide +kernel
theorem d_M_bits_33 : decode prog_8_method_29_code 33 = .ok (.iadd, 1) := by decide +kernel
theorem d_M_bits_34 : decode prog_8_method_29_code 34 = .ok (.baload, 1) := by decide +kernel
theorem d_M_bits_35 : decode prog_8_method_29_code 35 = .ok (.istore 5, 2) := by decide +kernel
theorem d_M_bits_37 : decode prog_8_method_29_code 37 = .ok (.iconst 2, 1) := by decide +kernel
theorem d_M_bits_38 : decode prog_8_method_29_code 38 = .ok (.iload_n 3, 1) := by decide +kernel
theorem d_M_bits_39 : decode prog_8_method_29_code 39 = .ok (.imul, 1) := by decide +kernel
theorem d_M_bits_40 : decode prog_8_method_29_code 40 = .ok (.iload 5, 2) := by decide +kernel
theorem d_M_bits_42 : decode prog_8_method_29_code 42 = .ok (.ifCond .eq 7, 3) := by decide +kernel
theorem d_M_bits_45 : decode prog_8_method_29_code 45 = .ok (.iconst 1, 1) := by decide +kernel
theorem d_M_bits_46 : decode prog_8_method_29_code 46 = .ok (.goto 4, 3) := by decide +kernel
theorem d_M_bits_49 : decode prog_8_method_29_code 49 = .ok (.iconst 0, 1) := by decide +kernel
theorem d_M_bits_50 : decode prog_8_method_29_code 50 = .ok (.iadd, 1) := by decide +kernel
theorem d_M_bits_51 : decode prog_8_method_29_code 51 = .ok (.istore_n 3, 1) := by decide +kernel
theorem d_M_bits_52 : decode prog_8_method_29_code 52 = .ok (.iinc 4 (-1), 3) := by decide +kernel
theorem d_M_bits_55 : decode prog_8_method_29_code 55 = .ok (.goto (-50), 3) := by decide +kernel
theorem d_M_bits_58 : decode prog_8_method_29_code 58 = .ok (.iload_n 3, 1) := by decide +kernel
theorem d_M_bits_59 : decode prog_8_method_29_code 59 = .ok (.ireturn, 1) := by decide +kernel
theorem d_M_learn_0 : decode prog_8_method_31_code 0 = .ok (.iload_n 1, 1) := by decide +kernel
theorem d_M_learn_1 : decode prog_8_method_31_code 1 = .ok (.invokestatic 106, 3) := by decide +kernel
theorem d_M_learn_4 : decode prog_8_method_31_code 4 = .ok (.ifCond .ne 5, 3) := by decide +kernel
theorem d_M_learn_7 : decode prog_8_method_31_code 7 = .ok (.iconst 0, 1) := by decide +kernel
theorem d_M_learn_8 : decode prog_8_method_31_code 8 = .ok (.ireturn, 1) := by decide +kernel
theorem d_M_learn_9 : decode prog_8_method_31_code 9 = .ok (.aload_n 0, 1) := by decide +kernel
theorem d_M_learn_10 : decode prog_8_method_31_code 10 = .ok (.getfield 39, 3) := by decide +kernel
theorem d_M_learn_13 : decode prog_8_method_31_code 13 = .ok (.iload_n 1, 1) := by decide +kernel
theorem d_M_learn_14 : decode prog_8_method_31_code 14 = .ok (.baload, 1) := by decide +kernel
theorem d_M_learn_15 : decode prog_8_method_31_code 15 = .ok (.ifCond .eq 16, 3) := by decide +kernel
theorem d_M_learn_18 : decode prog_8_method_31_code 18 = .ok (.aload_n 0, 1) := by decide +kernel
theorem d_M_learn_19 : decode prog_8_method_31_code 19 = .ok (.getfield 42, 3) := by decide +kernel
theorem d_M_learn_22 : decode prog_8_method_31_code 22 = .ok (.iload_n 1, 1) := by decide +kernel
theorem d_M_learn_23 : decode prog_8_method_31_code 23 = .ok (.iaload, 1) := by decide +kernel
theorem d_M_learn_24 : decode prog_8_method_31_code 24 = .ok (.aload_n 0, 1) := by decide +kernel
theorem d_M_learn_25 : decode prog_8_method_31_code 25 = .ok (.getfield 7, 3) := by decide +kernel
theorem d_M_learn_28 : decode prog_8_method_31_code 28 = .ok (.if_icmp .ne 5, 3) := by decide +kernel
theorem d_M_learn_31 : decode prog_8_method_31_code 31 = .ok (.iconst 0, 1) := by decide +kernel
theorem d_M_learn_32 : decode prog_8_method_31_code 32 = .ok (.ireturn, 1) := by decide +kernel
theorem d_M_learn_33 : decode prog_8_method_31_code 33 = .ok (.aload_n 0, 1) := by decide +kernel
theorem d_M_learn_34 : decode prog_8_method_31_code 34 = .ok (.getfield 42, 3) := by decide +kernel
theorem d_M_learn_37 : decode prog_8_method_31_code 37 = .ok (.iload_n 1, 1) := by decide +kernel
theorem d_M_learn_38 : decode prog_8_method_31_code 38 = .ok (.aload_n 0, 1) := by decide +kernel
theorem d_M_learn_39 : decode prog_8_method_31_code 39 = .ok (.getfield 7, 3) := by decide +kernel
theorem d_M_learn_42 : decode prog_8_method_31_code 42 = .ok (.iastore, 1) := by decide +kernel
theorem d_M_learn_43 : decode prog_8_method_31_code 43 = .ok (.aload_n 0, 1) := by decide +kernel
theorem d_M_learn_44 : decode prog_8_method_31_code 44 = .ok (.getfield 45, 3) := by decide +kernel
theorem d_M_learn_47 : decode prog_8_method_31_code 47 = .ok (.iload_n 1, 1) := by decide +kernel
theorem d_M_learn_48 : decode prog_8_method_31_code 48 = .ok (.aload_n 0, 1) := by decide +kernel
theorem d_M_learn_49 : decode prog_8_method_31_code 49 = .ok (.getfield 174, 3) := by decide +kernel
theorem d_M_learn_52 : decode prog_8_method_31_code 52 = .ok (.iastore, 1) := by decide +kernel
theorem d_M_learn_53 : decode prog_8_method_31_code 53 = .ok (.aload_n 0, 1) := by decide +kernel
theorem d_M_learn_54 : decode prog_8_method_31_code 54 = .ok (.getfield 51, 3) := by decide +kernel
theorem d_M_learn_57 : decode prog_8_method_31_code 57 = .ok (.iload_n 1, 1) := by decide +kernel
theorem d_M_learn_58 : decode prog_8_method_31_code 58 = .ok (.iconst 0, 1) := by decide +kernel
theorem d_M_learn_59 : decode prog_8_method_31_code 59 = .ok (.bastore, 1) := by decide +kernel
theorem d_M_learn_60 : decode prog_8_method_31_code 60 = .ok (.aload_n 0, 1) := by decide +kernel
theorem d_M_learn_61 : decode prog_8_method_31_code 61 = .ok (.getfield 174, 3) := by decide +kernel
theorem d_M_learn_64 : decode prog_8_method_31_code 64 = .ok (.iload_n 1, 1) := by decide +kernel
theorem d_M_learn_65 : decode prog_8_method_31_code 65 = .ok (.if_icmp .ne 8, 3) := by decide +kernel
theorem d_M_learn_68 : decode prog_8_method_31_code 68 = .ok (.aload_n 0, 1) := by decide +kernel
theorem d_M_learn_69 : decode prog_8_method_31_code 69 = .ok (.iload_n 1, 1) := by decide +kernel
theorem d_M_learn_70 : decode prog_8_method_31_code 70 = .ok (.invokevirtual 102, 3) := by decide +kernel
theorem d_M_learn_73 : decode prog_8_method_31_code 73 = .ok (.iconst 1, 1) := by decide +kernel
theorem d_M_learn_74 : decode prog_8_method_31_code 74 = .ok (.ireturn, 1) := by decide +kernel
theorem d_M_crash_0 : decode prog_8_method_32_code 0 = .ok (.iload_n 1, 1) := by decide +kernel
theorem d_M_crash_1 : decode prog_8_method_32_code 1 = .ok (.invokestatic 106, 3) := by decide +kernel
theorem d_M_crash_4 : decode prog_8_method_32_code 4 = .ok (.ifCond .ne 5, 3) := by decide +kernel
theorem d_M_crash_7 : decode prog_8_method_32_code 7 = .ok (.iconst 0, 1) := by decide +kernel
theorem d_M_crash_8 : decode prog_8_method_32_code 8 = .ok (.ireturn, 1) := by decide +kernel
theorem d_M_crash_9 : decode prog_8_method_32_code 9 = .ok (.aload_n 0, 1) := by decide +kernel
theorem d_M_crash_10 : decode prog_8_method_32_code 10 = .ok (.getfield 39, 3) := by decide +kernel
theorem d_M_crash_13 : decode prog_8_method_32_code 13 = .ok (.iload_n 1, 1) := by decide +kernel
theorem d_M_crash_14 : decode prog_8_method_32_code 14 = .ok (.baload, 1) := by decide +kernel
theorem d_M_crash_15 : decode prog_8_method_32_code 15 = .ok (.ifCond .ne 5, 3) := by decide +kernel
theorem d_M_crash_18 : decode prog_8_method_32_code 18 = .ok (.iconst 0, 1) := by decide +kernel
theorem d_M_crash_19 : decode prog_8_method_32_code 19 = .ok (.ireturn, 1) := by decide +kernel
theorem d_M_crash_20 : decode prog_8_method_32_code 20 = .ok (.aload_n 0, 1) := by decide +kernel
theorem d_M_crash_21 : decode prog_8_method_32_code 21 = .ok (.getfield 39, 3) := by decide +kernel
theorem d_M_crash_24 : decode prog_8_method_32_code 24 = .ok (.iload_n 1, 1) := by decide +kernel
theorem d_M_crash_25 : decode prog_8_method_32_code 25 = .ok (.iconst 0, 1) := by decide +kernel
theorem d_M_crash_26 : decode prog_8_method_32_code 26 = .ok (.bastore, 1) := by decide +kernel
theorem d_M_crash_27 : decode prog_8_method_32_code 27 = .ok (.aload_n 0, 1) := by decide +kernel
theorem d_M_crash_28 : decode prog_8_method_32_code 28 = .ok (.getfield 42, 3) := by decide +kernel
theorem d_M_crash_31 : decode prog_8_method_32_code 31 = .ok (.iload_n 1, 1) := by decide +kernel
theorem d_M_crash_32 : decode prog_8_method_32_code 32 = .ok (.iconst 0, 1) := by decide +kernel
theorem d_M_crash_33 : decode prog_8_method_32_code 33 = .ok (.iastore, 1) := by decide +kernel
theorem d_M_crash_34 : decode prog_8_method_32_code 34 = .ok (.aload_n 0, 1) := by decide +kernel
theorem d_M_crash_35 : decode prog_8_method_32_code 35 = .ok (.getfield 45, 3) := by decide +kernel
theorem d_M_crash_38 : decode prog_8_method_32_code 38 = .ok (.iload_n 1, 1) := by decide +kernel
theorem d_M_crash_39 : decode prog_8_method_32_code 39 = .ok (.iconst (-1), 1) := by decide +kernel
theorem d_M_crash_40 : decode prog_8_method_32_code 40 = .ok (.iastore, 1) := by decide +kernel
theorem d_M_crash_41 : decode prog_8_method_32_code 41 = .ok (.aload_n 0, 1) := by decide +kernel
theorem d_M_crash_42 : decode prog_8_method_32_code 42 = .ok (.getfield 51, 3) := by decide +kernel
theorem d_M_crash_45 : decode prog_8_method_32_code 45 = .ok (.iload_n 1, 1) := by decide +kernel
theorem d_M_crash_46 : decode prog_8_method_32_code 46 = .ok (.iconst 0, 1) := by decide +kernel
theorem d_M_crash_47 : decode prog_8_method_32_code 47 = .ok (.bastore, 1) := by decide +kernel
theorem d_M_crash_48 : decode prog_8_method_32_code 48 = .ok (.iconst 1, 1) := by decide +kernel
theorem d_M_crash_49 : decode prog_8_method_32_code 49 = .ok (.ireturn, 1) := by decide +kernel
theorem d_M_restart_0 : decode prog_8_method_33_code 0 = .ok (.iload_n 1, 1) := by decide +kernel
theorem d_M_restart_1 : decode prog_8_method_33_code 1 = .ok (.invokestatic 106, 3) := by decide +kernel
theorem d_M_restart_4 : decode prog_8_method_33_code 4 = .ok (.ifCond .ne 5, 3) := by decide +kernel
theorem d_M_restart_7 : decode prog_8_method_33_code 7 = .ok (.iconst 0, 1) := by decide +kernel
theorem d_M_restart_8 : decode prog_8_method_33_code 8 = .ok (.ireturn, 1) := by decide +kernel
theorem d_M_restart_9 : decode prog_8_method_33_code 9 = .ok (.aload_n 0, 1) := by decide +kernel
theorem d_M_restart_10 : decode prog_8_method_33_code 10 = .ok (.getfield 39, 3) := by decide +kernel
theorem d_M_restart_13 : decode prog_8_method_33_code 13 = .ok (.iload_n 1, 1) := by decide +kernel
theorem d_M_restart_14 : decode prog_8_method_33_code 14 = .ok (.baload, 1) := by decide +kernel
theorem d_M_restart_15 : decode prog_8_method_33_code 15 = .ok (.istore_n 2, 1) := by decide +kernel
theorem d_M_restart_16 : decode prog_8_method_33_code 16 = .ok (.aload_n 0, 1) := by decide +kernel
theorem d_M_restart_17 : decode prog_8_method_33_code 17 = .ok (.getfield 39, 3) := by decide +kernel
theorem d_M_restart_20 : decode prog_8_method_33_code 20 = .ok (.iload_n 1, 1) := by decide +kernel
theorem d_M_restart_21 : decode prog_8_method_33_code 21 = .ok (.iconst 1, 1) := by decide +kernel
theorem d_M_restart_22 : decode prog_8_method_33_code 22 = .ok (.bastore, 1) := by decide +kernel
theorem d_M_restart_23 : decode prog_8_method_33_code 23 = .ok (.iload_n 2, 1) := by decide +kernel
theorem d_M_restart_24 : decode prog_8_method_33_code 24 = .ok (.ifCond .ne 7, 3) := by decide +kernel
theorem d_M_restart_27 : decode prog_8_method_33_code 27 = .ok (.iconst 1, 1) := by decide +kernel
theorem d_M_restart_28 : decode prog_8_method_33_code 28 = .ok (.goto 4, 3) := by decide +kernel
theorem d_M_restart_31 : decode prog_8_method_33_code 31 = .ok (.iconst 0, 1) := by decide +kernel
theorem d_M_restart_32 : decode prog_8_method_33_code 32 = .ok (.ireturn, 1) := by decide +kernel
theorem d_M_govern_0 : decode prog_8_method_35_code 0 = .ok (.iconst (-1), 1) := by decide +kernel
theorem d_M_govern_1 : decode prog_8_method_35_code 1 = .ok (.istore_n 2, 1) := by decide +kernel
theorem d_M_govern_2 : decode prog_8_method_35_code 2 = .ok (.iconst 0, 1) := by decide +kernel
theorem d_M_govern_3 : decode prog_8_method_35_code 3 = .ok (.istore_n 3, 1) := by decide +kernel
theorem d_M_govern_4 : decode prog_8_method_35_code 4 = .ok (.iconst 3, 1) := by decide +kernel
theorem d_M_govern_5 : decode prog_8_method_35_code 5 = .ok (.istore 4, 2) := by decide +kernel
theorem d_M_govern_7 : decode prog_8_method_35_code 7 = .ok (.iload 4, 2) := by decide +kernel
theorem d_M_govern_9 : decode prog_8_method_35_code 9 = .ok (.ifCond .lt 65, 3) := by decide +kernel
theorem d_M_govern_12 : decode prog_8_method_35_code 12 = .ok (.aload_n 0, 1) := by decide +kernel
theorem d_M_govern_13 : decode prog_8_method_35_code 13 = .ok (.iload 4, 2) := by decide +kernel
theorem d_M_govern_15 : decode prog_8_method_35_code 15 = .ok (.iload_n 1, 1) := by decide +kernel
theorem d_M_govern_16 : decode prog_8_method_35_code 16 = .ok (.invokevirtual 177, 3) := by decide +kernel
theorem d_M_govern_19 : decode prog_8_method_35_code 19 = .ok (.istore 5, 2) := by decide +kernel
theorem d_M_govern_21 : decode prog_8_method_35_code 21 = .ok (.aload_n 0, 1) := by decide +kernel
theorem d_M_govern_22 : decode prog_8_method_35_code 22 = .ok (.getfield 13, 3) := by decide +kernel
theorem d_M_govern_25 : decode prog_8_method_35_code 25 = .ok (.iload 4, 2) := by decide +kernel
theorem d_M_govern_27 : decode prog_8_method_35_code 27 = .ok (.baload, 1) := by decide +kernel
theorem d_M_govern_28 : decode prog_8_method_35_code 28 = .ok (.ifCond .eq 13, 3) := by decide +kernel
theorem d_M_govern_31 : decode prog_8_method_35_code 31 = .ok (.iload 5, 2) := by decide +kernel
theorem d_M_govern_33 : decode prog_8_method_35_code 33 = .ok (.ifCond .eq 8, 3) := by decide +kernel
theorem d_M_govern_36 : decode prog_8_method_35_code 36 = .ok (.iload 4, 2) := by decide +kernel
theorem d_M_govern_38 : decode prog_8_method_35_code 38 = .ok (.goto 4, 3) := by decide +kernel
theorem d_M_govern_41 : decode prog_8_method_35_code 41 = .ok (.iload_n 2, 1) := by decide +kernel
theorem d_M_govern_42 : decode prog_8_method_35_code 42 = .ok (.istore_n 2, 1) := by decide +kernel
theorem d_M_govern_43 : decode prog_8_method_35_code 43 = .ok (.iload_n 3, 1) := by decide +kernel
theorem d_M_govern_44 : decode prog_8_method_35_code 44 = .ok (.ifCond .ne 18, 3) := by decide +kernel
theorem d_M_govern_47 : decode prog_8_method_35_code 47 = .ok (.aload_n 0, 1) := by decide +kernel
theorem d_M_govern_48 : decode prog_8_method_35_code 48 = .ok (.getfield 13, 3) := by decide +kernel
theorem d_M_govern_51 : decode prog_8_method_35_code 51 = .ok (.iload 4, 2) := by decide +kernel
theorem d_M_govern_53 : decode prog_8_method_35_code 53 = .ok (.baload, 1) := by decide +kernel
theorem d_M_govern_54 : decode prog_8_method_35_code 54 = .ok (.ifCond .eq 12, 3) := by decide +kernel
theorem d_M_govern_57 : decode prog_8_method_35_code 57 = .ok (.iload 5, 2) := by decide +kernel
theorem d_M_govern_59 : decode prog_8_method_35_code 59 = .ok (.ifCond .ne 7, 3) := by decide +kernel
theorem d_M_govern_62 : decode prog_8_method_35_code 62 = .ok (.iconst 1, 1) := by decide +kernel
theorem d_M_govern_63 : decode prog_8_method_35_code 63 = .ok (.goto 4, 3) := by decide +kernel
theorem d_M_govern_66 : decode prog_8_method_35_code 66 = .ok (.iconst 0, 1) := by decide +kernel
theorem d_M_govern_67 : decode prog_8_method_35_code 67 = .ok (.istore_n 3, 1) := by decide +kernel
theorem d_M_govern_68 : decode prog_8_method_35_code 68 = .ok (.iinc 4 (-1), 3) := by decide +kernel
theorem d_M_govern_71 : decode prog_8_method_35_code 71 = .ok (.goto (-64), 3) := by decide +kernel
theorem d_M_govern_74 : decode prog_8_method_35_code 74 = .ok (.aload_n 0, 1) := by decide +kernel
theorem d_M_govern_75 : decode prog_8_method_35_code 75 = .ok (.getfield 174, 3) := by decide +kernel
theorem d_M_govern_78 : decode prog_8_method_35_code 78 = .ok (.ifCond .lt 7, 3) := by decide +kernel
theorem d_M_govern_81 : decode prog_8_method_35_code 81 = .ok (.iconst 1, 1) := by decide +kernel
theorem d_M_govern_82 : decode prog_8_method_35_code 82 = .ok (.goto 4, 3) := by decide +kernel
theorem d_M_govern_85 : decode prog_8_method_35_code 85 = .ok (.iconst 0, 1) := by decide +kernel
theorem d_M_govern_86 : decode prog_8_method_35_code 86 = .ok (.istore 4, 2) := by decide +kernel
theorem d_M_govern_88 : decode prog_8_method_35_code 88 = .ok (.iload_n 2, 1) := by decide +kernel
theorem d_M_govern_89 : decode prog_8_method_35_code 89 = .ok (.ifCond .ge 33, 3) := by decide +kernel
theorem d_M_govern_92 : decode prog_8_method_35_code 92 = .ok (.aload_n 0, 1) := by decide +kernel
theorem d_M_govern_93 : decode prog_8_method_35_code 93 = .ok (.iconst (-1), 1) := by decide +kernel
theorem d_M_govern_94 : decode prog_8_method_35_code 94 = .ok (.putfield 174, 3) := by decide +kernel
theorem d_M_govern_97 : decode prog_8_method_35_code 97 = .ok (.aload_n 0, 1) := by decide +kernel
theorem d_M_govern_98 : decode prog_8_method_35_code 98 = .ok (.iload 4, 2) := by decide +kernel
theorem d_M_govern_100 : decode prog_8_method_35_code 100 = .ok (.ifCond .eq 12, 3) := by decide +kernel
theorem d_M_govern_103 : decode prog_8_method_35_code 103 = .ok (.aload_n 0, 1) := by decide +kernel
theorem d_M_govern_104 : decode prog_8_method_35_code 104 = .ok (.getfield 7, 3) := by decide +kernel
theorem d_M_govern_107 : decode prog_8_method_35_code 107 = .ok (.iconst 1, 1) := by decide +kernel
theorem d_M_govern_108 : decode prog_8_method_35_code 108 = .ok (.iadd, 1) := by decide +kernel
theorem d_M_govern_109 : decode prog_8_method_35_code 109 = .ok (.goto 7, 3) := by decide +kernel
theorem d_M_govern_112 : decode prog_8_method_35_code 112 = .ok (.aload_n 0, 1) := by decide +kernel
theorem d_M_govern_113 : decode prog_8_method_35_code 113 = .ok (.getfield 7, 3) := by decide +kernel
theorem d_M_govern_116 : decode prog_8_method_35_code 116 = .ok (.putfield 7, 3) := by decide +kernel
theorem d_M_govern_119 : decode prog_8_method_35_code 119 = .ok (.iload 4, 2) := by decide +kernel
theorem d_M_govern_121 : decode prog_8_method_35_code 121 = .ok (.ireturn, 1) := by decide +kernel
theorem d_M_govern_122 : decode prog_8_method_35_code 122 = .ok (.iload 4, 2) := by decide +kernel
theorem d_M_govern_124 : decode prog_8_method_35_code 124 = .ok (.ifCond .eq 19, 3) := by decide +kernel
theorem d_M_govern_127 : decode prog_8_method_35_code 127 = .ok (.aload_n 0, 1) := by decide +kernel
theorem d_M_govern_128 : decode prog_8_method_35_code 128 = .ok (.aload_n 0, 1) := by decide +kernel
theorem d_M_govern_129 : decode prog_8_method_35_code 129 = .ok (.getfield 174, 3) := by decide +kernel
theorem d_M_govern_132 : decode prog_8_method_35_code 132 = .ok (.iload_n 1, 1) := by decide +kernel
theorem d_M_govern_133 : decode prog_8_method_35_code 133 = .ok (.invokevirtual 177, 3) := by decide +kernel
theorem d_M_govern_136 : decode prog_8_method_35_code 136 = .ok (.ifCond .eq 7, 3) := by decide +kernel
theorem d_M_govern_139 : decode prog_8_method_35_code 139 = .ok (.iconst 1, 1) := by decide +kernel
theorem d_M_govern_140 : decode prog_8_method_35_code 140 = .ok (.goto 4, 3) := by decide +kernel
theorem d_M_govern_143 : decode prog_8_method_35_code 143 = .ok (.iconst 0, 1) := by decide +kernel
theorem d_M_govern_144 : decode prog_8_method_35_code 144 = .ok (.istore 5, 2) := by decide +kernel
theorem d_M_govern_146 : decode prog_8_method_35_code 146 = .ok (.iload 5, 2) := by decide +kernel
theorem d_M_govern_148 : decode prog_8_method_35_code 148 = .ok (.ifCond .eq 9, 3) := by decide +kernel
theorem d_M_govern_151 : decode prog_8_method_35_code 151 = .ok (.iload_n 3, 1) := by decide +kernel
theorem d_M_govern_152 : decode prog_8_method_35_code 152 = .ok (.ifCond .ne 5, 3) := by decide +kernel
theorem d_M_govern_155 : decode prog_8_method_35_code 155 = .ok (.iconst 0, 1) := by decide +kernel
theorem d_M_govern_156 : decode prog_8_method_35_code 156 = .ok (.ireturn, 1) := by decide +kernel
theorem d_M_govern_157 : decode prog_8_method_35_code 157 = .ok (.aload_n 0, 1) := by decide +kernel
theorem d_M_govern_158 : decode prog_8_method_35_code 158 = .ok (.iload 5, 2) := by decide +kernel
theorem d_M_govern_160 : decode prog_8_method_35_code 160 = .ok (.ifCond .eq 10, 3) := by decide +kernel
theorem d_M_govern_163 : decode prog_8_method_35_code 163 = .ok (.aload_n 0, 1) := by decide +kernel
theorem d_M_govern_164 : decode prog_8_method_35_code 164 = .ok (.getfield 174, 3) := by decide +kernel
theorem d_M_govern_167 : decode prog_8_method_35_code 167 = .ok (.goto 4, 3) := by decide +kernel
theorem d_M_govern_170 : decode prog_8_method_35_code 170 = .ok (.iload_n 2, 1) := by decide +kernel
theorem d_M_govern_171 : decode prog_8_method_35_code 171 = .ok (.putfield 174, 3) := by decide +kernel
theorem d_M_govern_174 : decode prog_8_method_35_code 174 = .ok (.iconst 0, 1) := by decide +kernel
theorem d_M_govern_175 : decode prog_8_method_35_code 175 = .ok (.istore 6, 2) := by decide +kernel
theorem d_M_govern_177 : decode prog_8_method_35_code 177 = .ok (.iload 6, 2) := by decide +kernel
theorem d_M_govern_179 : decode prog_8_method_35_code 179 = .ok (.iconst 4, 1) := by decide +kernel
theorem d_M_govern_180 : decode prog_8_method_35_code 180 = .ok (.if_icmp .ge 41, 3) := by decide +kernel
theorem d_M_govern_183 : decode prog_8_method_35_code 183 = .ok (.aload_n 0, 1) := by decide +kernel
theorem d_M_govern_184 : decode prog_8_method_35_code 184 = .ok (.getfield 13, 3) := by decide +kernel
theorem d_M_govern_187 : decode prog_8_method_35_code 187 = .ok (.iload 6, 2) := by decide +kernel
theorem d_M_govern_189 : decode prog_8_method_35_code 189 = .ok (.aload_n 0, 1) := by decide +kernel
theorem d_M_govern_190 : decode prog_8_method_35_code 190 = .ok (.getfield 13, 3) := by decide +kernel
theorem d_M_govern_193 : decode prog_8_method_35_code 193 = .ok (.iload 6, 2) := by decide +kernel
theorem d_M_govern_195 : decode prog_8_method_35_code 195 = .ok (.baload, 1) := by decide +kernel
theorem d_M_govern_196 : decode prog_8_method_35_code 196 = .ok (.ifCond .eq 17, 3) := by decide +kernel
theorem d_M_govern_199 : decode prog_8_method_35_code 199 = .ok (.aload_n 0, 1) := by decide +kernel
theorem d_M_govern_200 : decode prog_8_method_35_code 200 = .ok (.iload 6, 2) := by decide +kernel
theorem d_M_govern_202 : decode prog_8_method_35_code 202 = .ok (.iload_n 1, 1) := by decide +kernel
theorem d_M_govern_203 : decode prog_8_method_35_code 203 = .ok (.invokevirtual 177, 3) := by decide +kernel
theorem d_M_govern_206 : decode prog_8_method_35_code 206 = .ok (.ifCond .eq 7, 3) := by decide +kernel
theorem d_M_govern_209 : decode prog_8_method_35_code 209 = .ok (.iconst 1, 1) := by decide +kernel
theorem d_M_govern_210 : decode prog_8_method_35_code 210 = .ok (.goto 4, 3) := by decide +kernel
theorem d_M_govern_213 : decode prog_8_method_35_code 213 = .ok (.iconst 0, 1) := by decide +kernel
theorem d_M_govern_214 : decode prog_8_method_35_code 214 = .ok (.bastore, 1) := by decide +kernel
theorem d_M_govern_215 : decode prog_8_method_35_code 215 = .ok (.iinc 6 1, 3) := by decide +kernel
theorem d_M_govern_218 : decode prog_8_method_35_code 218 = .ok (.goto (-41), 3) := by decide +kernel
theorem d_M_govern_221 : decode prog_8_method_35_code 221 = .ok (.aload_n 0, 1) := by decide +kernel
theorem d_M_govern_222 : decode prog_8_method_35_code 222 = .ok (.dup, 1) := by decide +kernel
theorem d_M_govern_223 : decode prog_8_method_35_code 223 = .ok (.getfield 7, 3) := by decide +kernel
theorem d_M_govern_226 : decode prog_8_method_35_code 226 = .ok (.iconst 1, 1) := by decide +kernel
theorem d_M_govern_227 : decode prog_8_method_35_code 227 = .ok (.iadd, 1) := by decide +kernel
theorem d_M_govern_228 : decode prog_8_method_35_code 228 = .ok (.putfield 7, 3) := by decide +kernel
theorem d_M_govern_231 : decode prog_8_method_35_code 231 = .ok (.iconst 1, 1) := by decide +kernel
theorem d_M_govern_232 : decode prog_8_method_35_code 232 = .ok (.ireturn, 1) := by decide +kernel
theorem d_M_alive_0 : decode prog_8_method_34_code 0 = .ok (.aload_n 0, 1) := by decide +kernel
theorem d_M_alive_1 : decode prog_8_method_34_code 1 = .ok (.getfield 39, 3) := by decide +kernel
theorem d_M_alive_4 : decode prog_8_method_34_code 4 = .ok (.iload_n 1, 1) := by decide +kernel
theorem d_M_alive_5 : decode prog_8_method_34_code 5 = .ok (.baload, 1) := by decide +kernel
theorem d_M_alive_6 : decode prog_8_method_34_code 6 = .ok (.ifCond .eq 15, 3) := by decide +kernel
theorem d_M_alive_9 : decode prog_8_method_34_code 9 = .ok (.iload_n 2, 1) := by decide +kernel
theorem d_M_alive_10 : decode prog_8_method_34_code 10 = .ok (.iload_n 1, 1) := by decide +kernel
theorem d_M_alive_11 : decode prog_8_method_34_code 11 = .ok (.ishr, 1) := by decide +kernel
theorem d_M_alive_12 : decode prog_8_method_34_code 12 = .ok (.iconst 1, 1) := by decide +kernel
theorem d_M_alive_13 : decode prog_8_method_34_code 13 = .ok (.iand, 1) := by decide +kernel
theorem d_M_alive_14 : decode prog_8_method_34_code 14 = .ok (.ifCond .ne 7, 3) := by decide +kernel
theorem d_M_alive_17 : decode prog_8_method_34_code 17 = .ok (.iconst 1, 1) := by decide +kernel
theorem d_M_alive_18 : decode prog_8_method_34_code 18 = .ok (.goto 4, 3) := by decide +kernel
theorem d_M_alive_21 : decode prog_8_method_34_code 21 = .ok (.iconst 0, 1) := by decide +kernel
theorem d_M_alive_22 : decode prog_8_method_34_code 22 = .ok (.ireturn, 1) := by decide +kernel
theorem d_M_tick_0 : decode prog_8_method_36_code 0 = .ok (.iload_n 1, 1) := by decide +kernel
theorem d_M_tick_1 : decode prog_8_method_36_code 1 = .ok (.ifCond .lt 9, 3) := by decide +kernel
theorem d_M_tick_4 : decode prog_8_method_36_code 4 = .ok (.iload_n 1, 1) := by decide +kernel
theorem d_M_tick_5 : decode prog_8_method_36_code 5 = .ok (.bipush 50, 2) := by decide +kernel
theorem d_M_tick_7 : decode prog_8_method_36_code 7 = .ok (.if_icmp .le 5, 3) := by decide +kernel
theorem d_M_tick_10 : decode prog_8_method_36_code 10 = .ok (.iconst 0, 1) := by decide +kernel
theorem d_M_tick_11 : decode prog_8_method_36_code 11 = .ok (.ireturn, 1) := by decide +kernel
theorem d_M_tick_12 : decode prog_8_method_36_code 12 = .ok (.aload_n 0, 1) := by decide +kernel
theorem d_M_tick_13 : decode prog_8_method_36_code 13 = .ok (.dup, 1) := by decide +kernel
theorem d_M_tick_14 : decode prog_8_method_36_code 14 = .ok (.getfield 110, 3) := by decide +kernel
theorem d_M_tick_17 : decode prog_8_method_36_code 17 = .ok (.iload_n 1, 1) := by decide +kernel
theorem d_M_tick_18 : decode prog_8_method_36_code 18 = .ok (.iadd, 1) := by decide +kernel
theorem d_M_tick_19 : decode prog_8_method_36_code 19 = .ok (.putfield 110, 3) := by decide +kernel
theorem d_M_tick_22 : decode prog_8_method_36_code 22 = .ok (.iconst 1, 1) := by decide +kernel
theorem d_M_tick_23 : decode prog_8_method_36_code 23 = .ok (.ireturn, 1) := by decide +kernel
theorem d_M_controller_0 : decode prog_8_method_37_code 0 = .ok (.iload_n 1, 1) := by decide +kernel
theorem d_M_controller_1 : decode prog_8_method_37_code 1 = .ok (.ifCond .ne 10, 3) := by decide +kernel
theorem d_M_controller_4 : decode prog_8_method_37_code 4 = .ok (.aload_n 0, 1) := by decide +kernel
theorem d_M_controller_5 : decode prog_8_method_37_code 5 = .ok (.getfield 7, 3) := by decide +kernel
theorem d_M_controller_8 : decode prog_8_method_37_code 8 = .ok (.goto 30, 3) := by decide +kernel
theorem d_M_controller_11 : decode prog_8_method_37_code 11 = .ok (.iload_n 1, 1) := by decide +kernel
theorem d_M_controller_12 : decode prog_8_method_37_code 12 = .ok (.iconst 1, 1) := by decide +kernel
theorem d_M_controller_13 : decode prog_8_method_37_code 13 = .ok (.if_icmp .ne 10, 3) := by decide +kernel
theorem d_M_controller_16 : decode prog_8_method_37_code 16 = .ok (.aload_n 0, 1) := by decide +kernel
theorem d_M_controller_17 : decode prog_8_method_37_code 17 = .ok (.getfield 174, 3) := by decide +kernel
theorem d_M_controller_20 : decode prog_8_method_37_code 20 = .ok (.goto 18, 3) := by decide +kernel
theorem d_M_controller_23 : decode prog_8_method_37_code 23 = .ok (.iload_n 1, 1) := by decide +kernel
theorem d_M_controller_24 : decode prog_8_method_37_code 24 = .ok (.iconst 2, 1) := by decide +kernel
theorem d_M_controller_25 : decode prog_8_method_37_code 25 = .ok (.if_icmp .ne 12, 3) := by decide +kernel
theorem d_M_controller_28 : decode prog_8_method_37_code 28 = .ok (.aload_n 0, 1) := by decide +kernel
theorem d_M_controller_29 : decode prog_8_method_37_code 29 = .ok (.iconst 1, 1) := by decide +kernel
theorem d_M_controller_30 : decode prog_8_method_37_code 30 = .ok (.iconst 0, 1) := by decide +kernel
theorem d_M_controller_31 : decode prog_8_method_37_code 31 = .ok (.invokevirtual 170, 3) := by decide +kernel
theorem d_M_controller_34 : decode prog_8_method_37_code 34 = .ok (.goto 4, 3) := by decide +kernel
theorem d_M_controller_37 : decode prog_8_method_37_code 37 = .ok (.iconst (-1), 1) := by decide +kernel
theorem d_M_controller_38 : decode prog_8_method_37_code 38 = .ok (.ireturn, 1) := by decide +kernel
theorem d_M_broker_0 : decode prog_8_method_38_code 0 = .ok (.iload_n 1, 1) := by decide +kernel
theorem d_M_broker_1 : decode prog_8_method_38_code 1 = .ok (.invokestatic 106, 3) := by decide +kernel
theorem d_M_broker_4 : decode prog_8_method_38_code 4 = .ok (.ifCond .ne 5, 3) := by decide +kernel
theorem d_M_broker_7 : decode prog_8_method_38_code 7 = .ok (.iconst (-1), 1) := by decide +kernel
theorem d_M_broker_8 : decode prog_8_method_38_code 8 = .ok (.ireturn, 1) := by decide +kernel
theorem d_M_broker_9 : decode prog_8_method_38_code 9 = .ok (.iload_n 2, 1) := by decide +kernel
theorem d_M_broker_10 : decode prog_8_method_38_code 10 = .ok (.tableswitch 116 0 6 #[42, 57, 64, 71, 90, 102, 109], 42) := by decide +kernel
theorem d_M_broker_52 : decode prog_8_method_38_code 52 = .ok (.aload_n 0, 1) := by decide +kernel
theorem d_M_broker_53 : decode prog_8_method_38_code 53 = .ok (.getfield 39, 3) := by decide +kernel
theorem d_M_broker_56 : decode prog_8_method_38_code 56 = .ok (.iload_n 1, 1) := by decide +kernel
theorem d_M_broker_57 : decode prog_8_method_38_code 57 = .ok (.baload, 1) := by decide +kernel
theorem d_M_broker_58 : decode prog_8_method_38_code 58 = .ok (.ifCond .eq 7, 3) := by decide +kernel
theorem d_M_broker_61 : decode prog_8_method_38_code 61 = .ok (.iconst 1, 1) := by decide +kernel
theorem d_M_broker_62 : decode prog_8_method_38_code 62 = .ok (.goto 4, 3) := by decide +kernel
theorem d_M_broker_65 : decode prog_8_method_38_code 65 = .ok (.iconst 0, 1) := by decide +kernel
theorem d_M_broker_66 : decode prog_8_method_38_code 66 = .ok (.ireturn, 1) := by decide +kernel
theorem d_M_broker_67 : decode prog_8_method_38_code 67 = .ok (.aload_n 0, 1) := by decide +kernel
theorem d_M_broker_68 : decode prog_8_method_38_code 68 = .ok (.getfield 42, 3) := by decide +kernel
theorem d_M_broker_71 : decode prog_8_method_38_code 71 = .ok (.iload_n 1, 1) := by decide +kernel
theorem d_M_broker_72 : decode prog_8_method_38_code 72 = .ok (.iaload, 1) := by decide +kernel
theorem d_M_broker_73 : decode prog_8_method_38_code 73 = .ok (.ireturn, 1) := by decide +kernel
theorem d_M_broker_74 : decode prog_8_method_38_code 74 = .ok (.aload_n 0, 1) := by decide +kernel
theorem d_M_broker_75 : decode prog_8_method_38_code 75 = .ok (.getfield 45, 3) := by decide +kernel
theorem d_M_broker_78 : decode prog_8_method_38_code 78 = .ok (.iload_n 1, 1) := by decide +kernel
theorem d_M_broker_79 : decode prog_8_method_38_code 79 = .ok (.iaload, 1) := by decide +kernel
theorem d_M_broker_80 : decode prog_8_method_38_code 80 = .ok (.ireturn, 1) := by decide +kernel
theorem d_M_broker_81 : decode prog_8_method_38_code 81 = .ok (.aload_n 0, 1) := by decide +kernel
theorem d_M_broker_82 : decode prog_8_method_38_code 82 = .ok (.iload_n 1, 1) := by decide +kernel
theorem d_M_broker_83 : decode prog_8_method_38_code 83 = .ok (.invokevirtual 123, 3) := by decide +kernel
theorem d_M_broker_86 : decode prog_8_method_38_code 86 = .ok (.ifCond .eq 12, 3) := by decide +kernel
theorem d_M_broker_89 : decode prog_8_method_38_code 89 = .ok (.aload_n 0, 1) := by decide +kernel
theorem d_M_broker_90 : decode prog_8_method_38_code 90 = .ok (.iconst 0, 1) := by decide +kernel
theorem d_M_broker_91 : decode prog_8_method_38_code 91 = .ok (.iload_n 1, 1) := by decide +kernel
theorem d_M_broker_92 : decode prog_8_method_38_code 92 = .ok (.invokevirtual 170, 3) := by decide +kernel
theorem d_M_broker_95 : decode prog_8_method_38_code 95 = .ok (.goto 4, 3) := by decide +kernel
theorem d_M_broker_98 : decode prog_8_method_38_code 98 = .ok (.iconst 0, 1) := by decide +kernel
theorem d_M_broker_99 : decode prog_8_method_38_code 99 = .ok (.ireturn, 1) := by decide +kernel
theorem d_M_broker_100 : decode prog_8_method_38_code 100 = .ok (.aload_n 0, 1) := by decide +kernel
theorem d_M_broker_101 : decode prog_8_method_38_code 101 = .ok (.getfield 21, 3) := by decide +kernel
theorem d_M_broker_104 : decode prog_8_method_38_code 104 = .ok (.aload_n 0, 1) := by decide +kernel
theorem d_M_broker_105 : decode prog_8_method_38_code 105 = .ok (.getfield 33, 3) := by decide +kernel
theorem d_M_broker_108 : decode prog_8_method_38_code 108 = .ok (.iload_n 1, 1) := by decide +kernel
theorem d_M_broker_109 : decode prog_8_method_38_code 109 = .ok (.iaload, 1) := by decide +kernel
theorem d_M_broker_110 : decode prog_8_method_38_code 110 = .ok (.iaload, 1) := by decide +kernel
theorem d_M_broker_111 : decode prog_8_method_38_code 111 = .ok (.ireturn, 1) := by decide +kernel
theorem d_M_broker_112 : decode prog_8_method_38_code 112 = .ok (.aload_n 0, 1) := by decide +kernel
theorem d_M_broker_113 : decode prog_8_method_38_code 113 = .ok (.getfield 36, 3) := by decide +kernel
theorem d_M_broker_116 : decode prog_8_method_38_code 116 = .ok (.iload_n 1, 1) := by decide +kernel
theorem d_M_broker_117 : decode prog_8_method_38_code 117 = .ok (.iaload, 1) := by decide +kernel
theorem d_M_broker_118 : decode prog_8_method_38_code 118 = .ok (.ireturn, 1) := by decide +kernel
theorem d_M_broker_119 : decode prog_8_method_38_code 119 = .ok (.aload_n 0, 1) := by decide +kernel
theorem d_M_broker_120 : decode prog_8_method_38_code 120 = .ok (.getfield 48, 3) := by decide +kernel
theorem d_M_broker_123 : decode prog_8_method_38_code 123 = .ok (.iload_n 1, 1) := by decide +kernel
theorem d_M_broker_124 : decode prog_8_method_38_code 124 = .ok (.iaload, 1) := by decide +kernel
theorem d_M_broker_125 : decode prog_8_method_38_code 125 = .ok (.ireturn, 1) := by decide +kernel
theorem d_M_broker_126 : decode prog_8_method_38_code 126 = .ok (.iconst (-1), 1) := by decide +kernel
theorem d_M_broker_127 : decode prog_8_method_38_code 127 = .ok (.ireturn, 1) := by decide +kernel
end
section
theorem d_W_cell_0 : decode method_2_code 0 = .ok (.iload_n 1, 1) := by decide +kernel
theorem d_W_cell_1 : decode method_2_code 1 = .ok (.aload_n 0, 1) := by decide +kernel
theorem d_W_cell_2 : decode method_2_code 2 = .ok (.arraylength, 1) := by decide +kernel
theorem d_W_cell_3 : decode method_2_code 3 = .ok (.if_icmp .ge 9, 3) := by decide +kernel
theorem d_W_cell_6 : decode method_2_code 6 = .ok (.aload_n 0, 1) := by decide +kernel
theorem d_W_cell_7 : decode method_2_code 7 = .ok (.iload_n 1, 1) := by decide +kernel
theorem d_W_cell_8 : decode method_2_code 8 = .ok (.iaload, 1) := by decide +kernel
theorem d_W_cell_9 : decode method_2_code 9 = .ok (.goto 4, 3) := by decide +kernel
theorem d_W_cell_12 : decode method_2_code 12 = .ok (.iconst 0, 1) := by decide +kernel
theorem d_W_cell_13 : decode method_2_code 13 = .ok (.ireturn, 1) := by decide +kernel
theorem d_W_law_0 : decode code 0 = .ok (.new 7, 3) := by decide +kernel
theorem d_W_law_3 : decode code 3 = .ok (.dup, 1) := by decide +kernel
theorem d_W_law_4 : decode code 4 = .ok (.aload_n 0, 1) := by decide +kernel
theorem d_W_law_5 : decode code 5 = .ok (.iconst 0, 1) := by decide +kernel
theorem d_W_law_6 : decode code 6 = .ok (.invokestatic 9, 3) := by decide +kernel
theorem d_W_law_9 : decode code 9 = .ok (.aload_n 0, 1) := by decide +kernel
theorem d_W_law_10 : decode code 10 = .ok (.iconst 1, 1) := by decide +kernel
theorem d_W_law_11 : decode code 11 = .ok (.invokestatic 9, 3) := by decide +kernel
theorem d_W_law_14 : decode code 14 = .ok (.aload_n 0, 1) := by decide +kernel
theorem d_W_law_15 : decode code 15 = .ok (.iconst 2, 1) := by decide +kernel
theorem d_W_law_16 : decode code 16 = .ok (.invokestatic 9, 3) := by decide +kernel
theorem d_W_law_19 : decode code 19 = .ok (.invokespecial 15, 3) := by decide +kernel
theorem d_W_law_22 : decode code 22 = .ok (.astore_n 1, 1) := by decide +kernel
theorem d_W_law_23 : decode code 23 = .ok (.new 18, 3) := by decide +kernel
theorem d_W_law_26 : decode code 26 = .ok (.dup, 1) := by decide +kernel
theorem d_W_law_27 : decode code 27 = .ok (.aload_n 0, 1) := by decide +kernel
theorem d_W_law_28 : decode code 28 = .ok (.iconst 0, 1) := by decide +kernel
theorem d_W_law_29 : decode code 29 = .ok (.invokestatic 9, 3) := by decide +kernel
theorem d_W_law_32 : decode code 32 = .ok (.aload_n 0, 1) := by decide +kernel
theorem d_W_law_33 : decode code 33 = .ok (.iconst 1, 1) := by decide +kernel
theorem d_W_law_34 : decode code 34 = .ok (.invokestatic 9, 3) := by decide +kernel
theorem d_W_law_37 : decode code 37 = .ok (.aload_n 0, 1) := by decide +kernel
theorem d_W_law_38 : decode code 38 = .ok (.iconst 2, 1) := by decide +kernel
theorem d_W_law_39 : decode code 39 = .ok (.invokestatic 9, 3) := by decide +kernel
theorem d_W_law_42 : decode code 42 = .ok (.invokespecial 20, 3) := by decide +kernel
theorem d_W_law_45 : decode code 45 = .ok (.astore_n 2, 1) := by decide +kernel
theorem d_W_law_46 : decode code 46 = .ok (.iconst 3, 1) := by decide +kernel
theorem d_W_law_47 : decode code 47 = .ok (.istore_n 3, 1) := by decide +kernel
theorem d_W_law_48 : decode code 48 = .ok (.iload_n 3, 1) := by decide +kernel
theorem d_W_law_49 : decode code 49 = .ok (.aload_n 0, 1) := by decide +kernel
theorem d_W_law_50 : decode code 50 = .ok (.arraylength, 1) := by decide +kernel
theorem d_W_law_51 : decode code 51 = .ok (.iconst 3, 1) := by decide +kernel
theorem d_W_law_52 : decode code 52 = .ok (.isub, 1) := by decide +kernel
theorem d_W_law_53 : decode code 53 = .ok (.if_icmp .gt 602, 3) := by decide +kernel
theorem d_W_law_56 : decode code 56 = .ok (.aload_n 0, 1) := by decide +kernel
theorem d_W_law_57 : decode code 57 = .ok (.iload_n 3, 1) := by decide +kernel
theorem d_W_law_58 : decode code 58 = .ok (.iaload, 1) := by decide +kernel
theorem d_W_law_59 : decode code 59 = .ok (.bipush 31, 2) := by decide +kernel
theorem d_W_law_61 : decode code 61 = .ok (.iand, 1) := by decide +kernel
theorem d_W_law_62 : decode code 62 = .ok (.tableswitch 587 0 18 #[90, 123, 156, 189, 212, 235, 258, 281, 294, 327, 350, 373, 396, 419, 442, 465, 488, 521, 554], 90) := by decide +kernel
theorem d_W_law_152 : decode code 152 = .ok (.aload_n 1, 1) := by decide +kernel
theorem d_W_law_153 : decode code 153 = .ok (.aload_n 0, 1) := by decide +kernel
theorem d_W_law_154 : decode code 154 = .ok (.iload_n 3, 1) := by decide +kernel
theorem d_W_law_155 : decode code 155 = .ok (.iconst 1, 1) := by decide +kernel
theorem d_W_law_156 : decode code 156 = .ok (.iadd, 1) := by decide +kernel
theorem d_W_law_157 : decode code 157 = .ok (.iaload, 1) := by decide +kernel
theorem d_W_law_158 : decode code 158 = .ok (.aload_n 0, 1) := by decide +kernel
theorem d_W_law_159 : decode code 159 = .ok (.iload_n 3, 1) := by decide +kernel
theorem d_W_law_160 : decode code 160 = .ok (.iconst 2, 1) := by decide +kernel
theorem d_W_law_161 : decode code 161 = .ok (.iadd, 1) := by decide +kernel
theorem d_W_law_162 : decode code 162 = .ok (.iaload, 1) := by decide +kernel
theorem d_W_law_163 : decode code 163 = .ok (.invokevirtual 21, 3) := by decide +kernel
theorem d_W_law_166 : decode code 166 = .ok (.aload_n 2, 1) := by decide +kernel
theorem d_W_law_167 : decode code 167 = .ok (.aload_n 0, 1) := by decide +kernel
theorem d_W_law_168 : decode code 168 = .ok (.iload_n 3, 1) := by decide +kernel
theorem d_W_law_169 : decode code 169 = .ok (.iconst 1, 1) := by decide +kernel
theorem d_W_law_170 : decode code 170 = .ok (.iadd, 1) := by decide +kernel
theorem d_W_law_171 : decode code 171 = .ok (.iaload, 1) := by decide +kernel
theorem d_W_law_172 : decode code 172 = .ok (.aload_n 0, 1) := by decide +kernel
theorem d_W_law_173 : decode code 173 = .ok (.iload_n 3, 1) := by decide +kernel
theorem d_W_law_174 : decode code 174 = .ok (.iconst 2, 1) := by decide +kernel
theorem d_W_law_175 : decode code 175 = .ok (.iadd, 1) := by decide +kernel
theorem d_W_law_176 : decode code 176 = .ok (.iaload, 1) := by decide +kernel
theorem d_W_law_177 : decode code 177 = .ok (.invokevirtual 25, 3) := by decide +kernel
theorem d_W_law_180 : decode code 180 = .ok (.if_icmp .eq 469, 3) := by decide +kernel
theorem d_W_law_183 : decode code 183 = .ok (.iconst 0, 1) := by decide +kernel
theorem d_W_law_184 : decode code 184 = .ok (.ireturn, 1) := by decide +kernel
theorem d_W_law_185 : decode code 185 = .ok (.aload_n 1, 1) := by decide +kernel
theorem d_W_law_186 : decode code 186 = .ok (.aload_n 0, 1) := by decide +kernel
theorem d_W_law_187 : decode code 187 = .ok (.iload_n 3, 1) := by decide +kernel
theorem d_W_law_188 : decode code 188 = .ok (.iconst 1, 1) := by decide +kernel
theorem d_W_law_189 : decode code 189 = .ok (.iadd, 1) := by decide +kernel
theorem d_W_law_190 : decode code 190 = .ok (.iaload, 1) := by decide +kernel
theorem d_W_law_191 : decode code 191 = .ok (.aload_n 0, 1) := by decide +kernel
theorem d_W_law_192 : decode code 192 = .ok (.iload_n 3, 1) := by decide +kernel
theorem d_W_law_193 : decode code 193 = .ok (.iconst 2, 1) := by decide +kernel
theorem d_W_law_194 : decode code 194 = .ok (.iadd, 1) := by decide +kernel
theorem d_W_law_195 : decode code 195 = .ok (.iaload, 1) := by decide +kernel
theorem d_W_law_196 : decode code 196 = .ok (.invokevirtual 26, 3) := by decide +kernel
theorem d_W_law_199 : decode code 199 = .ok (.aload_n 2, 1) := by decide +kernel
theorem d_W_law_200 : decode code 200 = .ok (.aload_n 0, 1) := by decide +kernel
theorem d_W_law_201 : decode code 201 = .ok (.iload_n 3, 1) := by decide +kernel
theorem d_W_law_202 : decode code 202 = .ok (.iconst 1, 1) := by decide +kernel
theorem d_W_law_203 : decode code 203 = .ok (.iadd, 1) := by decide +kernel
theorem d_W_law_204 : decode code 204 = .ok (.iaload, 1) := by decide +kernel
theorem d_W_law_205 : decode code 205 = .ok (.aload_n 0, 1) := by decide +kernel
theorem d_W_law_206 : decode code 206 = .ok (.iload_n 3, 1) := by decide +kernel
theorem d_W_law_207 : decode code 207 = .ok (.iconst 2, 1) := by decide +kernel
theorem d_W_law_208 : decode code 208 = .ok (.iadd, 1) := by decide +kernel
theorem d_W_law_209 : decode code 209 = .ok (.iaload, 1) := by decide +kernel
theorem d_W_law_210 : decode code 210 = .ok (.invokevirtual 29, 3) := by decide +kernel
theorem d_W_law_213 : decode code 213 = .ok (.if_icmp .eq 436, 3) := by decide +kernel
theorem d_W_law_216 : decode code 216 = .ok (.iconst 0, 1) := by decide +kernel
theorem d_W_law_217 : decode code 217 = .ok (.ireturn, 1) := by decide +kernel
theorem d_W_law_218 : decode code 218 = .ok (.aload_n 1, 1) := by decide +kernel
theorem d_W_law_219 : decode code 219 = .ok (.aload_n 0, 1) := by decide +kernel
theorem d_W_law_220 : decode code 220 = .ok (.iload_n 3, 1) := by decide +kernel
theorem d_W_law_221 : decode code 221 = .ok (.iconst 1, 1) := by decide +kernel
theorem d_W_law_222 : decode code 222 = .ok (.iadd, 1) := by decide +kernel
theorem d_W_law_223 : decode code 223 = .ok (.iaload, 1) := by decide +kernel
theorem d_W_law_224 : decode code 224 = .ok (.aload_n 0, 1) := by decide +kernel
theorem d_W_law_225 : decode code 225 = .ok (.iload_n 3, 1) := by decide +kernel
theorem d_W_law_226 : decode code 226 = .ok (.iconst 2, 1) := by decide +kernel
theorem d_W_law_227 : decode code 227 = .ok (.iadd, 1) := by decide +kernel
theorem d_W_law_228 : decode code 228 = .ok (.iaload, 1) := by decide +kernel
theorem d_W_law_229 : decode code 229 = .ok (.invokevirtual 30, 3) := by decide +kernel
theorem d_W_law_232 : decode code 232 = .ok (.aload_n 2, 1) := by decide +kernel
theorem d_W_law_233 : decode code 233 = .ok (.aload_n 0, 1) := by decide +kernel
theorem d_W_law_234 : decode code 234 = .ok (.iload_n 3, 1) := by decide +kernel
theorem d_W_law_235 : decode code 235 = .ok (.iconst 1, 1) := by decide +kernel
theorem d_W_law_236 : decode code 236 = .ok (.iadd, 1) := by decide +kernel
theorem d_W_law_237 : decode code 237 = .ok (.iaload, 1) := by decide +kernel
theorem d_W_law_238 : decode code 238 = .ok (.aload_n 0, 1) := by decide +kernel
theorem d_W_law_239 : decode code 239 = .ok (.iload_n 3, 1) := by decide +kernel
theorem d_W_law_240 : decode code 240 = .ok (.iconst 2, 1) := by decide +kernel
theorem d_W_law_241 : decode code 241 = .ok (.iadd, 1) := by decide +kernel
theorem d_W_law_242 : decode code 242 = .ok (.iaload, 1) := by decide +kernel
theorem d_W_law_243 : decode code 243 = .ok (.invokevirtual 33, 3) := by decide +kernel
theorem d_W_law_246 : decode code 246 = .ok (.if_icmp .eq 403, 3) := by decide +kernel
theorem d_W_law_249 : decode code 249 = .ok (.iconst 0, 1) := by decide +kernel
theorem d_W_law_250 : decode code 250 = .ok (.ireturn, 1) := by decide +kernel
theorem d_W_law_251 : decode code 251 = .ok (.aload_n 1, 1) := by decide +kernel
theorem d_W_law_252 : decode code 252 = .ok (.aload_n 0, 1) := by decide +kernel
theorem d_W_law_253 : decode code 253 = .ok (.iload_n 3, 1) := by decide +kernel
theorem d_W_law_254 : decode code 254 = .ok (.iconst 1, 1) := by decide +kernel
theorem d_W_law_255 : decode code 255 = .ok (.iadd, 1) := by decide +kernel
theorem d_W_law_256 : decode code 256 = .ok (.iaload, 1) := by decide +kernel
theorem d_W_law_257 : decode code 257 = .ok (.invokevirtual 34, 3) := by decide +kernel
theorem d_W_law_260 : decode code 260 = .ok (.aload_n 2, 1) := by decide +kernel
theorem d_W_law_261 : decode code 261 = .ok (.aload_n 0, 1) := by decide +kernel
theorem d_W_law_262 : decode code 262 = .ok (.iload_n 3, 1) := by decide +kernel
theorem d_W_law_263 : decode code 263 = .ok (.iconst 1, 1) := by decide +kernel
theorem d_W_law_264 : decode code 264 = .ok (.iadd, 1) := by decide +kernel
theorem d_W_law_265 : decode code 265 = .ok (.iaload, 1) := by decide +kernel
theorem d_W_law_266 : decode code 266 = .ok (.invokevirtual 38, 3) := by decide +kernel
theorem d_W_law_269 : decode code 269 = .ok (.if_icmp .eq 380, 3) := by decide +kernel
theorem d_W_law_272 : decode code 272 = .ok (.iconst 0, 1) := by decide +kernel
theorem d_W_law_273 : decode code 273 = .ok (.ireturn, 1) := by decide +kernel
theorem d_W_law_274 : decode code 274 = .ok (.aload_n 1, 1) := by decide +kernel
theorem d_W_law_275 : decode code 275 = .ok (.aload_n 0, 1) := by decide +kernel
theorem d_W_law_276 : decode code 276 = .ok (.iload_n 3, 1) := by decide +kernel
theorem d_W_law_277 : decode code 277 = .ok (.iconst 1, 1) := by decide +kernel
theorem d_W_law_278 : decode code 278 = .ok (.iadd, 1) := by decide +kernel
theorem d_W_law_279 : decode code 279 = .ok (.iaload, 1) := by decide +kernel
theorem d_W_law_280 : decode code 280 = .ok (.invokevirtual 39, 3) := by decide +kernel
theorem d_W_law_283 : decode code 283 = .ok (.aload_n 2, 1) := by decide +kernel
theorem d_W_law_284 : decode code 284 = .ok (.aload_n 0, 1) := by decide +kernel
theorem d_W_law_285 : decode code 285 = .ok (.iload_n 3, 1) := by decide +kernel
theorem d_W_law_286 : decode code 286 = .ok (.iconst 1, 1) := by decide +kernel
theorem d_W_law_287 : decode code 287 = .ok (.iadd, 1) := by decide +kernel
theorem d_W_law_288 : decode code 288 = .ok (.iaload, 1) := by decide +kernel
theorem d_W_law_289 : decode code 289 = .ok (.invokevirtual 43, 3) := by decide +kernel
theorem d_W_law_292 : decode code 292 = .ok (.if_icmp .eq 357, 3) := by decide +kernel
theorem d_W_law_295 : decode code 295 = .ok (.iconst 0, 1) := by decide +kernel
theorem d_W_law_296 : decode code 296 = .ok (.ireturn, 1) := by decide +kernel
theorem d_W_law_297 : decode code 297 = .ok (.aload_n 1, 1) := by decide +kernel
theorem d_W_law_298 : decode code 298 = .ok (.aload_n 0, 1) := by decide +kernel
theorem d_W_law_299 : decode code 299 = .ok (.iload_n 3, 1) := by decide +kernel
theorem d_W_law_300 : decode code 300 = .ok (.iconst 1, 1) := by decide +kernel
theorem d_W_law_301 : decode code 301 = .ok (.iadd, 1) := by decide +kernel
theorem d_W_law_302 : decode code 302 = .ok (.iaload, 1) := by decide +kernel
theorem d_W_law_303 : decode code 303 = .ok (.invokevirtual 44, 3) := by decide +kernel
theorem d_W_law_306 : decode code 306 = .ok (.aload_n 2, 1) := by decide +kernel
theorem d_W_law_307 : decode code 307 = .ok (.aload_n 0, 1) := by decide +kernel
theorem d_W_law_308 : decode code 308 = .ok (.iload_n 3, 1) := by decide +kernel
theorem d_W_law_309 : decode code 309 = .ok (.iconst 1, 1) := by decide +kernel
theorem d_W_law_310 : decode code 310 = .ok (.iadd, 1) := by decide +kernel
theorem d_W_law_311 : decode code 311 = .ok (.iaload, 1) := by decide +kernel
theorem d_W_law_312 : decode code 312 = .ok (.invokevirtual 47, 3) := by decide +kernel
theorem d_W_law_315 : decode code 315 = .ok (.if_icmp .eq 334, 3) := by decide +kernel
theorem d_W_law_318 : decode code 318 = .ok (.iconst 0, 1) := by decide +kernel
theorem d_W_law_319 : decode code 319 = .ok (.ireturn, 1) := by decide +kernel
theorem d_W_law_320 : decode code 320 = .ok (.aload_n 1, 1) := by decide +kernel
theorem d_W_law_321 : decode code 321 = .ok (.aload_n 0, 1) := by decide +kernel
theorem d_W_law_322 : decode code 322 = .ok (.iload_n 3, 1) := by decide +kernel
theorem d_W_law_323 : decode code 323 = .ok (.iconst 1, 1) := by decide +kernel
theorem d_W_law_324 : decode code 324 = .ok (.iadd, 1) := by decide +kernel
theorem d_W_law_325 : decode code 325 = .ok (.iaload, 1) := by decide +kernel
theorem d_W_law_326 : decode code 326 = .ok (.invokevirtual 48, 3) := by decide +kernel
theorem d_W_law_329 : decode code 329 = .ok (.aload_n 2, 1) := by decide +kernel
theorem d_W_law_330 : decode code 330 = .ok (.aload_n 0, 1) := by decide +kernel
theorem d_W_law_331 : decode code 331 = .ok (.iload_n 3, 1) := by decide +kernel
theorem d_W_law_332 : decode code 332 = .ok (.iconst 1, 1) := by decide +kernel
theorem d_W_law_333 : decode code 333 = .ok (.iadd, 1) := by decide +kernel
theorem d_W_law_334 : decode code 334 = .ok (.iaload, 1) := by decide +kernel
theorem d_W_law_335 : decode code 335 = .ok (.invokevirtual 51, 3) := by decide +kernel
theorem d_W_law_338 : decode code 338 = .ok (.if_icmp .eq 311, 3) := by decide +kernel
theorem d_W_law_341 : decode code 341 = .ok (.iconst 0, 1) := by decide +kernel
theorem d_W_law_342 : decode code 342 = .ok (.ireturn, 1) := by decide +kernel
theorem d_W_law_343 : decode code 343 = .ok (.aload_n 1, 1) := by decide +kernel
theorem d_W_law_344 : decode code 344 = .ok (.invokevirtual 52, 3) := by decide +kernel
theorem d_W_law_347 : decode code 347 = .ok (.aload_n 2, 1) := by decide +kernel
theorem d_W_law_348 : decode code 348 = .ok (.invokevirtual 56, 3) := by decide +kernel
theorem d_W_law_351 : decode code 351 = .ok (.if_icmp .eq 298, 3) := by decide +kernel
theorem d_W_law_354 : decode code 354 = .ok (.iconst 0, 1) := by decide +kernel
theorem d_W_law_355 : decode code 355 = .ok (.ireturn, 1) := by decide +kernel
theorem d_W_law_356 : decode code 356 = .ok (.aload_n 1, 1) := by decide +kernel
theorem d_W_law_357 : decode code 357 = .ok (.aload_n 0, 1) := by decide +kernel
theorem d_W_law_358 : decode code 358 = .ok (.iload_n 3, 1) := by decide +kernel
theorem d_W_law_359 : decode code 359 = .ok (.iconst 1, 1) := by decide +kernel
theorem d_W_law_360 : decode code 360 = .ok (.iadd, 1) := by decide +kernel
theorem d_W_law_361 : decode code 361 = .ok (.iaload, 1) := by decide +kernel
theorem d_W_law_362 : decode code 362 = .ok (.aload_n 0, 1) := by decide +kernel
theorem d_W_law_363 : decode code 363 = .ok (.iload_n 3, 1) := by decide +kernel
theorem d_W_law_364 : decode code 364 = .ok (.iconst 2, 1) := by decide +kernel
theorem d_W_law_365 : decode code 365 = .ok (.iadd, 1) := by decide +kernel
theorem d_W_law_366 : decode code 366 = .ok (.iaload, 1) := by decide +kernel
theorem d_W_law_367 : decode code 367 = .ok (.invokevirtual 57, 3) := by decide +kernel
theorem d_W_law_370 : decode code 370 = .ok (.aload_n 2, 1) := by decide +kernel
theorem d_W_law_371 : decode code 371 = .ok (.aload_n 0, 1) := by decide +kernel
theorem d_W_law_372 : decode code 372 = .ok (.iload_n 3, 1) := by decide +kernel
theorem d_W_law_373 : decode code 373 = .ok (.iconst 1, 1) := by decide +kernel
theorem d_W_law_374 : decode code 374 = .ok (.iadd, 1) := by decide +kernel
theorem d_W_law_375 : decode code 375 = .ok (.iaload, 1) := by decide +kernel
theorem d_W_law_376 : decode code 376 = .ok (.aload_n 0, 1) := by decide +kernel
theorem d_W_law_377 : decode code 377 = .ok (.iload_n 3, 1) := by decide +kernel
theorem d_W_law_378 : decode code 378 = .ok (.iconst 2, 1) := by decide +kernel
theorem d_W_law_379 : decode code 379 = .ok (.iadd, 1) := by decide +kernel
theorem d_W_law_380 : decode code 380 = .ok (.iaload, 1) := by decide +kernel
theorem d_W_law_381 : decode code 381 = .ok (.invokevirtual 60, 3) := by decide +kernel
theorem d_W_law_384 : decode code 384 = .ok (.if_icmp .eq 265, 3) := by decide +kernel
theorem d_W_law_387 : decode code 387 = .ok (.iconst 0, 1) := by decide +kernel
theorem d_W_law_388 : decode code 388 = .ok (.ireturn, 1) := by decide +kernel
theorem d_W_law_389 : decode code 389 = .ok (.aload_n 1, 1) := by decide +kernel
theorem d_W_law_390 : decode code 390 = .ok (.aload_n 0, 1) := by decide +kernel
theorem d_W_law_391 : decode code 391 = .ok (.iload_n 3, 1) := by decide +kernel
theorem d_W_law_392 : decode code 392 = .ok (.iconst 1, 1) := by decide +kernel
theorem d_W_law_393 : decode code 393 = .ok (.iadd, 1) := by decide +kernel
theorem d_W_law_394 : decode code 394 = .ok (.iaload, 1) := by decide +kernel
theorem d_W_law_395 : decode code 395 = .ok (.invokevirtual 61, 3) := by decide +kernel
theorem d_W_law_398 : decode code 398 = .ok (.aload_n 2, 1) := by decide +kernel
theorem d_W_law_399 : decode code 399 = .ok (.aload_n 0, 1) := by decide +kernel
theorem d_W_law_400 : decode code 400 = .ok (.iload_n 3, 1) := by decide +kernel
theorem d_W_law_401 : decode code 401 = .ok (.iconst 1, 1) := by decide +kernel
theorem d_W_law_402 : decode code 402 = .ok (.iadd, 1) := by decide +kernel
theorem d_W_law_403 : decode code 403 = .ok (.iaload, 1) := by decide +kernel
theorem d_W_law_404 : decode code 404 = .ok (.invokevirtual 64, 3) := by decide +kernel
theorem d_W_law_407 : decode code 407 = .ok (.if_icmp .eq 242, 3) := by decide +kernel
theorem d_W_law_410 : decode code 410 = .ok (.iconst 0, 1) := by decide +kernel
theorem d_W_law_411 : decode code 411 = .ok (.ireturn, 1) := by decide +kernel
theorem d_W_law_412 : decode code 412 = .ok (.aload_n 1, 1) := by decide +kernel
theorem d_W_law_413 : decode code 413 = .ok (.aload_n 0, 1) := by decide +kernel
theorem d_W_law_414 : decode code 414 = .ok (.iload_n 3, 1) := by decide +kernel
theorem d_W_law_415 : decode code 415 = .ok (.iconst 1, 1) := by decide +kernel
theorem d_W_law_416 : decode code 416 = .ok (.iadd, 1) := by decide +kernel
theorem d_W_law_417 : decode code 417 = .ok (.iaload, 1) := by decide +kernel
theorem d_W_law_418 : decode code 418 = .ok (.invokevirtual 65, 3) := by decide +kernel
theorem d_W_law_421 : decode code 421 = .ok (.aload_n 2, 1) := by decide +kernel
theorem d_W_law_422 : decode code 422 = .ok (.aload_n 0, 1) := by decide +kernel
theorem d_W_law_423 : decode code 423 = .ok (.iload_n 3, 1) := by decide +kernel
theorem d_W_law_424 : decode code 424 = .ok (.iconst 1, 1) := by decide +kernel
theorem d_W_law_425 : decode code 425 = .ok (.iadd, 1) := by decide +kernel
theorem d_W_law_426 : decode code 426 = .ok (.iaload, 1) := by decide +kernel
theorem d_W_law_427 : decode code 427 = .ok (.invokevirtual 68, 3) := by decide +kernel
theorem d_W_law_430 : decode code 430 = .ok (.if_icmp .eq 219, 3) := by decide +kernel
theorem d_W_law_433 : decode code 433 = .ok (.iconst 0, 1) := by decide +kernel
theorem d_W_law_434 : decode code 434 = .ok (.ireturn, 1) := by decide +kernel
theorem d_W_law_435 : decode code 435 = .ok (.aload_n 1, 1) := by decide +kernel
theorem d_W_law_436 : decode code 436 = .ok (.aload_n 0, 1) := by decide +kernel
theorem d_W_law_437 : decode code 437 = .ok (.iload_n 3, 1) := by decide +kernel
theorem d_W_law_438 : decode code 438 = .ok (.iconst 1, 1) := by decide +kernel
theorem d_W_law_439 : decode code 439 = .ok (.iadd, 1) := by decide +kernel
theorem d_W_law_440 : decode code 440 = .ok (.iaload, 1) := by decide +kernel
theorem d_W_law_441 : decode code 441 = .ok (.invokevirtual 69, 3) := by decide +kernel
theorem d_W_law_444 : decode code 444 = .ok (.aload_n 2, 1) := by decide +kernel
theorem d_W_law_445 : decode code 445 = .ok (.aload_n 0, 1) := by decide +kernel
theorem d_W_law_446 : decode code 446 = .ok (.iload_n 3, 1) := by decide +kernel
theorem d_W_law_447 : decode code 447 = .ok (.iconst 1, 1) := by decide +kernel
theorem d_W_law_448 : decode code 448 = .ok (.iadd, 1) := by decide +kernel
theorem d_W_law_449 : decode code 449 = .ok (.iaload, 1) := by decide +kernel
theorem d_W_law_450 : decode code 450 = .ok (.invokevirtual 72, 3) := by decide +kernel
theorem d_W_law_453 : decode code 453 = .ok (.if_icmp .eq 196, 3) := by decide +kernel
theorem d_W_law_456 : decode code 456 = .ok (.iconst 0, 1) := by decide +kernel
theorem d_W_law_457 : decode code 457 = .ok (.ireturn, 1) := by decide +kernel
theorem d_W_law_458 : decode code 458 = .ok (.aload_n 1, 1) := by decide +kernel
theorem d_W_law_459 : decode code 459 = .ok (.aload_n 0, 1) := by decide +kernel
theorem d_W_law_460 : decode code 460 = .ok (.iload_n 3, 1) := by decide +kernel
theorem d_W_law_461 : decode code 461 = .ok (.iconst 1, 1) := by decide +kernel
theorem d_W_law_462 : decode code 462 = .ok (.iadd, 1) := by decide +kernel
theorem d_W_law_463 : decode code 463 = .ok (.iaload, 1) := by decide +kernel
theorem d_W_law_464 : decode code 464 = .ok (.invokevirtual 73, 3) := by decide +kernel
theorem d_W_law_467 : decode code 467 = .ok (.aload_n 2, 1) := by decide +kernel
theorem d_W_law_468 : decode code 468 = .ok (.aload_n 0, 1) := by decide +kernel
theorem d_W_law_469 : decode code 469 = .ok (.iload_n 3, 1) := by decide +kernel
theorem d_W_law_470 : decode code 470 = .ok (.iconst 1, 1) := by decide +kernel
theorem d_W_law_471 : decode code 471 = .ok (.iadd, 1) := by decide +kernel
theorem d_W_law_472 : decode code 472 = .ok (.iaload, 1) := by decide +kernel
theorem d_W_law_473 : decode code 473 = .ok (.invokevirtual 76, 3) := by decide +kernel
theorem d_W_law_476 : decode code 476 = .ok (.if_icmp .eq 173, 3) := by decide +kernel
theorem d_W_law_479 : decode code 479 = .ok (.iconst 0, 1) := by decide +kernel
theorem d_W_law_480 : decode code 480 = .ok (.ireturn, 1) := by decide +kernel
theorem d_W_law_481 : decode code 481 = .ok (.aload_n 1, 1) := by decide +kernel
theorem d_W_law_482 : decode code 482 = .ok (.aload_n 0, 1) := by decide +kernel
theorem d_W_law_483 : decode code 483 = .ok (.iload_n 3, 1) := by decide +kernel
theorem d_W_law_484 : decode code 484 = .ok (.iconst 1, 1) := by decide +kernel
theorem d_W_law_485 : decode code 485 = .ok (.iadd, 1) := by decide +kernel
theorem d_W_law_486 : decode code 486 = .ok (.iaload, 1) := by decide +kernel
theorem d_W_law_487 : decode code 487 = .ok (.invokevirtual 77, 3) := by decide +kernel
theorem d_W_law_490 : decode code 490 = .ok (.aload_n 2, 1) := by decide +kernel
theorem d_W_law_491 : decode code 491 = .ok (.aload_n 0, 1) := by decide +kernel
theorem d_W_law_492 : decode code 492 = .ok (.iload_n 3, 1) := by decide +kernel
theorem d_W_law_493 : decode code 493 = .ok (.iconst 1, 1) := by decide +kernel
theorem d_W_law_494 : decode code 494 = .ok (.iadd, 1) := by decide +kernel
theorem d_W_law_495 : decode code 495 = .ok (.iaload, 1) := by decide +kernel
theorem d_W_law_496 : decode code 496 = .ok (.invokevirtual 80, 3) := by decide +kernel
theorem d_W_law_499 : decode code 499 = .ok (.if_icmp .eq 150, 3) := by decide +kernel
theorem d_W_law_502 : decode code 502 = .ok (.iconst 0, 1) := by decide +kernel
theorem d_W_law_503 : decode code 503 = .ok (.ireturn, 1) := by decide +kernel
theorem d_W_law_504 : decode code 504 = .ok (.aload_n 1, 1) := by decide +kernel
theorem d_W_law_505 : decode code 505 = .ok (.aload_n 0, 1) := by decide +kernel
theorem d_W_law_506 : decode code 506 = .ok (.iload_n 3, 1) := by decide +kernel
theorem d_W_law_507 : decode code 507 = .ok (.iconst 1, 1) := by decide +kernel
theorem d_W_law_508 : decode code 508 = .ok (.iadd, 1) := by decide +kernel
theorem d_W_law_509 : decode code 509 = .ok (.iaload, 1) := by decide +kernel
theorem d_W_law_510 : decode code 510 = .ok (.invokevirtual 81, 3) := by decide +kernel
theorem d_W_law_513 : decode code 513 = .ok (.aload_n 2, 1) := by decide +kernel
theorem d_W_law_514 : decode code 514 = .ok (.aload_n 0, 1) := by decide +kernel
theorem d_W_law_515 : decode code 515 = .ok (.iload_n 3, 1) := by decide +kernel
theorem d_W_law_516 : decode code 516 = .ok (.iconst 1, 1) := by decide +kernel
theorem d_W_law_517 : decode code 517 = .ok (.iadd, 1) := by decide +kernel
theorem d_W_law_518 : decode code 518 = .ok (.iaload, 1) := by decide +kernel
theorem d_W_law_519 : decode code 519 = .ok (.invokevirtual 84, 3) := by decide +kernel
theorem d_W_law_522 : decode code 522 = .ok (.if_icmp .eq 127, 3) := by decide +kernel
theorem d_W_law_525 : decode code 525 = .ok (.iconst 0, 1) := by decide +kernel
theorem d_W_law_526 : decode code 526 = .ok (.ireturn, 1) := by decide +kernel
theorem d_W_law_527 : decode code 527 = .ok (.aload_n 1, 1) := by decide +kernel
theorem d_W_law_528 : decode code 528 = .ok (.aload_n 0, 1) := by decide +kernel
theorem d_W_law_529 : decode code 529 = .ok (.iload_n 3, 1) := by decide +kernel
theorem d_W_law_530 : decode code 530 = .ok (.iconst 1, 1) := by decide +kernel
theorem d_W_law_531 : decode code 531 = .ok (.iadd, 1) := by decide +kernel
theorem d_W_law_532 : decode code 532 = .ok (.iaload, 1) := by decide +kernel
theorem d_W_law_533 : decode code 533 = .ok (.invokevirtual 85, 3) := by decide +kernel
theorem d_W_law_536 : decode code 536 = .ok (.aload_n 2, 1) := by decide +kernel
theorem d_W_law_537 : decode code 537 = .ok (.aload_n 0, 1) := by decide +kernel
theorem d_W_law_538 : decode code 538 = .ok (.iload_n 3, 1) := by decide +kernel
theorem d_W_law_539 : decode code 539 = .ok (.iconst 1, 1) := by decide +kernel
theorem d_W_law_540 : decode code 540 = .ok (.iadd, 1) := by decide +kernel
theorem d_W_law_541 : decode code 541 = .ok (.iaload, 1) := by decide +kernel
theorem d_W_law_542 : decode code 542 = .ok (.invokevirtual 88, 3) := by decide +kernel
theorem d_W_law_545 : decode code 545 = .ok (.if_icmp .eq 104, 3) := by decide +kernel
theorem d_W_law_548 : decode code 548 = .ok (.iconst 0, 1) := by decide +kernel
theorem d_W_law_549 : decode code 549 = .ok (.ireturn, 1) := by decide +kernel
theorem d_W_law_550 : decode code 550 = .ok (.aload_n 1, 1) := by decide +kernel
theorem d_W_law_551 : decode code 551 = .ok (.aload_n 0, 1) := by decide +kernel
theorem d_W_law_552 : decode code 552 = .ok (.iload_n 3, 1) := by decide +kernel
theorem d_W_law_553 : decode code 553 = .ok (.iconst 1, 1) := by decide +kernel
theorem d_W_law_554 : decode code 554 = .ok (.iadd, 1) := by decide +kernel
theorem d_W_law_555 : decode code 555 = .ok (.iaload, 1) := by decide +kernel
theorem d_W_law_556 : decode code 556 = .ok (.aload_n 0, 1) := by decide +kernel
theorem d_W_law_557 : decode code 557 = .ok (.iload_n 3, 1) := by decide +kernel
theorem d_W_law_558 : decode code 558 = .ok (.iconst 2, 1) := by decide +kernel
theorem d_W_law_559 : decode code 559 = .ok (.iadd, 1) := by decide +kernel
theorem d_W_law_560 : decode code 560 = .ok (.iaload, 1) := by decide +kernel
theorem d_W_law_561 : decode code 561 = .ok (.invokevirtual 89, 3) := by decide +kernel
theorem d_W_law_564 : decode code 564 = .ok (.aload_n 2, 1) := by decide +kernel
theorem d_W_law_565 : decode code 565 = .ok (.aload_n 0, 1) := by decide +kernel
theorem d_W_law_566 : decode code 566 = .ok (.iload_n 3, 1) := by decide +kernel
theorem d_W_law_567 : decode code 567 = .ok (.iconst 1, 1) := by decide +kernel
theorem d_W_law_568 : decode code 568 = .ok (.iadd, 1) := by decide +kernel
theorem d_W_law_569 : decode code 569 = .ok (.iaload, 1) := by decide +kernel
theorem d_W_law_570 : decode code 570 = .ok (.aload_n 0, 1) := by decide +kernel
theorem d_W_law_571 : decode code 571 = .ok (.iload_n 3, 1) := by decide +kernel
theorem d_W_law_572 : decode code 572 = .ok (.iconst 2, 1) := by decide +kernel
theorem d_W_law_573 : decode code 573 = .ok (.iadd, 1) := by decide +kernel
theorem d_W_law_574 : decode code 574 = .ok (.iaload, 1) := by decide +kernel
theorem d_W_law_575 : decode code 575 = .ok (.invokevirtual 92, 3) := by decide +kernel
theorem d_W_law_578 : decode code 578 = .ok (.if_icmp .eq 71, 3) := by decide +kernel
theorem d_W_law_581 : decode code 581 = .ok (.iconst 0, 1) := by decide +kernel
theorem d_W_law_582 : decode code 582 = .ok (.ireturn, 1) := by decide +kernel
theorem d_W_law_583 : decode code 583 = .ok (.aload_n 1, 1) := by decide +kernel
theorem d_W_law_584 : decode code 584 = .ok (.aload_n 0, 1) := by decide +kernel
theorem d_W_law_585 : decode code 585 = .ok (.iload_n 3, 1) := by decide +kernel
theorem d_W_law_586 : decode code 586 = .ok (.iconst 1, 1) := by decide +kernel
theorem d_W_law_587 : decode code 587 = .ok (.iadd, 1) := by decide +kernel
theorem d_W_law_588 : decode code 588 = .ok (.iaload, 1) := by decide +kernel
theorem d_W_law_589 : decode code 589 = .ok (.aload_n 0, 1) := by decide +kernel
theorem d_W_law_590 : decode code 590 = .ok (.iload_n 3, 1) := by decide +kernel
theorem d_W_law_591 : decode code 591 = .ok (.iconst 2, 1) := by decide +kernel
theorem d_W_law_592 : decode code 592 = .ok (.iadd, 1) := by decide +kernel
theorem d_W_law_593 : decode code 593 = .ok (.iaload, 1) := by decide +kernel
theorem d_W_law_594 : decode code 594 = .ok (.invokevirtual 93, 3) := by decide +kernel
theorem d_W_law_597 : decode code 597 = .ok (.aload_n 2, 1) := by decide +kernel
theorem d_W_law_598 : decode code 598 = .ok (.aload_n 0, 1) := by decide +kernel
theorem d_W_law_599 : decode code 599 = .ok (.iload_n 3, 1) := by decide +kernel
theorem d_W_law_600 : decode code 600 = .ok (.iconst 1, 1) := by decide +kernel
theorem d_W_law_601 : decode code 601 = .ok (.iadd, 1) := by decide +kernel
theorem d_W_law_602 : decode code 602 = .ok (.iaload, 1) := by decide +kernel
theorem d_W_law_603 : decode code 603 = .ok (.aload_n 0, 1) := by decide +kernel
theorem d_W_law_604 : decode code 604 = .ok (.iload_n 3, 1) := by decide +kernel
theorem d_W_law_605 : decode code 605 = .ok (.iconst 2, 1) := by decide +kernel
theorem d_W_law_606 : decode code 606 = .ok (.iadd, 1) := by decide +kernel
theorem d_W_law_607 : decode code 607 = .ok (.iaload, 1) := by decide +kernel
theorem d_W_law_608 : decode code 608 = .ok (.invokevirtual 96, 3) := by decide +kernel
theorem d_W_law_611 : decode code 611 = .ok (.if_icmp .eq 38, 3) := by decide +kernel
theorem d_W_law_614 : decode code 614 = .ok (.iconst 0, 1) := by decide +kernel
theorem d_W_law_615 : decode code 615 = .ok (.ireturn, 1) := by decide +kernel
theorem d_W_law_616 : decode code 616 = .ok (.aload_n 1, 1) := by decide +kernel
theorem d_W_law_617 : decode code 617 = .ok (.aload_n 0, 1) := by decide +kernel
theorem d_W_law_618 : decode code 618 = .ok (.iload_n 3, 1) := by decide +kernel
theorem d_W_law_619 : decode code 619 = .ok (.iconst 1, 1) := by decide +kernel
theorem d_W_law_620 : decode code 620 = .ok (.iadd, 1) := by decide +kernel
theorem d_W_law_621 : decode code 621 = .ok (.iaload, 1) := by decide +kernel
theorem d_W_law_622 : decode code 622 = .ok (.aload_n 0, 1) := by decide +kernel
theorem d_W_law_623 : decode code 623 = .ok (.iload_n 3, 1) := by decide +kernel
theorem d_W_law_624 : decode code 624 = .ok (.iconst 2, 1) := by decide +kernel
theorem d_W_law_625 : decode code 625 = .ok (.iadd, 1) := by decide +kernel
theorem d_W_law_626 : decode code 626 = .ok (.iaload, 1) := by decide +kernel
theorem d_W_law_627 : decode code 627 = .ok (.invokevirtual 97, 3) := by decide +kernel
theorem d_W_law_630 : decode code 630 = .ok (.aload_n 2, 1) := by decide +kernel
theorem d_W_law_631 : decode code 631 = .ok (.aload_n 0, 1) := by decide +kernel
theorem d_W_law_632 : decode code 632 = .ok (.iload_n 3, 1) := by decide +kernel
theorem d_W_law_633 : decode code 633 = .ok (.iconst 1, 1) := by decide +kernel
theorem d_W_law_634 : decode code 634 = .ok (.iadd, 1) := by decide +kernel
theorem d_W_law_635 : decode code 635 = .ok (.iaload, 1) := by decide +kernel
theorem d_W_law_636 : decode code 636 = .ok (.aload_n 0, 1) := by decide +kernel
theorem d_W_law_637 : decode code 637 = .ok (.iload_n 3, 1) := by decide +kernel
theorem d_W_law_638 : decode code 638 = .ok (.iconst 2, 1) := by decide +kernel
theorem d_W_law_639 : decode code 639 = .ok (.iadd, 1) := by decide +kernel
theorem d_W_law_640 : decode code 640 = .ok (.iaload, 1) := by decide +kernel
theorem d_W_law_641 : decode code 641 = .ok (.invokevirtual 100, 3) := by decide +kernel
theorem d_W_law_644 : decode code 644 = .ok (.if_icmp .eq 5, 3) := by decide +kernel
theorem d_W_law_647 : decode code 647 = .ok (.iconst 0, 1) := by decide +kernel
theorem d_W_law_648 : decode code 648 = .ok (.ireturn, 1) := by decide +kernel
theorem d_W_law_649 : decode code 649 = .ok (.iinc 3 3, 3) := by decide +kernel
theorem d_W_law_652 : decode code 652 = .ok (.goto (-604), 3) := by decide +kernel
theorem d_W_law_655 : decode code 655 = .ok (.iconst 1, 1) := by decide +kernel
theorem d_W_law_656 : decode code 656 = .ok (.ireturn, 1) := by decide +kernel
end
section
/-! The X layer: a world of N cells (cell n lies at a n and holds K n (G n)), and a judgement over W that hides the heap. -/
section XL
def xw (N : Nat) (a : Nat → Nat) (E : Nat → va_E) : va_W := (List.range N).map (fun n => (a n, E n))
/-- cells whose shape is fixed (K) and whose numbers are the state (G) -/
abbrev kg (K : Nat → (Nat → Int32) → va_E) (G : Nat → Nat → Int32) : Nat → va_E := fun n => K n (G n)
def xJ (N : Nat) (a : Nat → Nat) : Prop := ∀ i j : Nat, i < N → j < N → a i = a j → i = j
def xA (N : Nat) (a : Nat → Nat) : Nat → Prop := fun q => ∃ i : Nat, i < N ∧ a i = q
/-- one number of the state is written -/
def g2 (G : Nat → Nat → Int32) (n k : Nat) (v : Int32) : Nat → Nat → Int32 := va_up G n (va_up (G n) k v)
theorem g2_row (G : Nat → Nat → Int32) (n k : Nat) (v : Int32) : g2 G n k v n = va_up (G n) k v := va_up_self G n _
theorem g2_ne (G : Nat → Nat → Int32) {n i : Nat} (k : Nat) (v : Int32) (h : i ≠ n) : g2 G n k v i = G i := va_up_ne G _ h
theorem g2_at (G : Nat → Nat → Int32) (n k : Nat) (v : Int32) : g2 G n k v n k = v := by rw [g2_row]; exact va_up_self _ _ _
theorem g2_k (G : Nat → Nat → Int32) (n : Nat) {k j : Nat} (v : Int32) (h : j ≠ k) : g2 G n k v n j = G n j := by rw [g2_row]; exact va_up_ne _ _ h
theorem xw_at {N : Nat} {a : Nat → Nat} {E : Nat → va_E} {n : Nat} (h : n < N) : (xw N a E)[n]? = some (a n, E n) := by
  simp [xw, h]
theorem xw_of {N : Nat} {a : Nat → Nat} {E : Nat → va_E} {n : Nat} {q : Nat × va_E} (h : (xw N a E)[n]? = some q) : n < N ∧ q = (a n, E n) := by
  have hn : n < N := by
    have := (List.getElem?_eq_some_iff.mp h).1
    simpa [xw] using this
  rw [xw_at hn] at h
  exact ⟨hn, (Option.some.inj h).symm⟩
theorem xw_setE {N : Nat} {a : Nat → Nat} {E : Nat → va_E} {n : Nat} {e : va_E} (h : n < N) : (xw N a E).set n (a n, e) = xw N a (va_up E n e) := by
  apply List.ext_getElem?
  intro i
  by_cases hi : n = i
  · subst hi
    rw [List.getElem?_set_self (by simpa [xw] using h), xw_at h, va_up_self]
  · rw [List.getElem?_set_ne hi]
    by_cases hN : i < N
    · rw [xw_at hN, xw_at hN, va_up_ne _ _ (fun q => hi q.symm)]
    · rw [List.getElem?_eq_none (by simpa [xw] using hN), List.getElem?_eq_none (by simpa [xw] using hN)]
theorem xw_eq {N : Nat} {a : Nat → Nat} {E E' : Nat → va_E} (h : ∀ n, n < N → E n = E' n) : xw N a E = xw N a E' := by
  unfold xw
  apply List.map_congr_left
  intro n hn
  rw [h n (List.mem_range.mp hn)]
theorem xw_set {N : Nat} {a : Nat → Nat} {K : Nat → (Nat → Int32) → va_E} {G : Nat → Nat → Int32} {n k : Nat} {v : Int32} {e : va_E} (h : n < N) (he : e = K n (va_up (G n) k v)) : (xw N a (kg K G)).set n (a n, e) = xw N a (kg K (g2 G n k v)) := by
  rw [xw_setE h]
  apply xw_eq
  intro i _
  by_cases hi : i = n
  · subst hi
    rw [va_up_self, he]
    show _ = K i (g2 G i k v i)
    rw [g2_row]
  · rw [va_up_ne _ _ hi]
    show K i (G i) = K i (g2 G n k v i)
    rw [g2_ne _ _ _ hi]
theorem xD {N : Nat} {a : Nat → Nat} {E : Nat → va_E} (h : xJ N a) : va_D (xA N a) (xw N a E) := by
  refine ⟨fun i j p q hp hq e => ?_, fun k q hk => ?_⟩
  · obtain ⟨h1, rfl⟩ := xw_of hp
    obtain ⟨h2, rfl⟩ := xw_of hq
    exact h i j h1 h2 e
  · obtain ⟨h1, rfl⟩ := xw_of hk
    exact ⟨k, h1, rfl⟩
/-- what stays the same through a method's body -/
def XC (Y : Heap → List Loc → JFrame → Prop) (l : Launch) (R : Room) (s : State) (m : MethodId) (args : Array Value) (cc : ByteArray) (nL : Nat) (own : String) (ret : Option FieldType) (cn sn : Nat) (QQ : List Frame → State → Prop) (D : va_G) (cl : List vw_C) (tys : List (ClassId × FieldType)) (N : Nat) (a : Nat → Nat) : Prop :=
  (∃ (p : Program) (e : Env) (below : List Frame) (meth : Method) (c : Code), Y = (fun H locs g => W p l e R s m args below meth c H locs cn sn (QQ below) g) ∧ CallFix p m c cc nL s args wsBig own ∧ meth.sig.returnType = ret ∧ meth.locks = false) ∧ cn ≤ R.cells ∧ sn ≤ R.slots ∧ va_K D cl tys s ∧ xJ N a ∧ xN s
def X (Y : Heap → List Loc → JFrame → Prop) (s : State) (m : MethodId) (D : va_G) (cl : List vw_C) (N : Nat) (a : Nat → Nat) (nL : Nat) (E : Nat → va_E) (pc : Nat) (L : List (Nat × Value)) (st : List Value) : Prop :=
  ∀ (H : Heap) (locs : List Loc) (ls : Array Slot), va_P D cl (xw N a E) H → va_S (xA N a) s.heap H locs → lv_has ls nL L → Y H locs (F0 m pc ls st)
variable {Y : Heap → List Loc → JFrame → Prop} {l : Launch} {R : Room} {s : State} {m : MethodId} {args : Array Value} {cc : ByteArray} {nL : Nat} {own : String} {ret : Option FieldType} {cn sn : Nat} {QQ : List Frame → State → Prop}
variable {D : va_G} {cl : List vw_C} {tys : List (ClassId × FieldType)} {N : Nat} {a : Nat → Nat} {E E' : Nat → va_E} {K : Nat → (Nat → Int32) → va_E} {G : Nat → Nat → Int32} {pc pc' : Nat} {L L' : List (Nat × Value)} {st : List Value}
theorem X_iconst (Γ : XC Y l R s m args cc nL own ret cn sn QQ D cl tys N a) {n : Int} {v : Int32} (hd : decode cc pc = .ok (.iconst n, 1)) (hv : Int32.ofInt n = v) (hp : pc + 1 = pc') (kk : X Y s m D cl N a nL E pc' L (.int v :: st)) : X Y s m D cl N a nL E pc L st := by
  obtain ⟨⟨p, e, below, meth, c, rfl, ⟨hx, hb, hml, hown, hts⟩, hr, hlk⟩, hcn, hsn, hK, hJ, hNs⟩ := Γ
  subst hp
  intro H locs ls h1 h2 h3
  exact lv_iconst hx hb hd hv (kk H locs ls h1 h2 h3)
theorem X_bipush (Γ : XC Y l R s m args cc nL own ret cn sn QQ D cl tys N a) {n : Int} {v : Int32} (hd : decode cc pc = .ok (.bipush n, 2)) (hv : (Int8.ofInt n).toInt32 = v) (hp : pc + 2 = pc') (kk : X Y s m D cl N a nL E pc' L (.int v :: st)) : X Y s m D cl N a nL E pc L st := by
  obtain ⟨⟨p, e, below, meth, c, rfl, ⟨hx, hb, hml, hown, hts⟩, hr, hlk⟩, hcn, hsn, hK, hJ, hNs⟩ := Γ
  subst hp
  intro H locs ls h1 h2 h3
  exact lv_bipush hx hb hd hv (kk H locs ls h1 h2 h3)
theorem X_sipush (Γ : XC Y l R s m args cc nL own ret cn sn QQ D cl tys N a) {n : Int} {v : Int32} (hd : decode cc pc = .ok (.sipush n, 3)) (hv : (Int16.ofInt n).toInt32 = v) (hp : pc + 3 = pc') (kk : X Y s m D cl N a nL E pc' L (.int v :: st)) : X Y s m D cl N a nL E pc L st := by
  obtain ⟨⟨p, e, below, meth, c, rfl, ⟨hx, hb, hml, hown, hts⟩, hr, hlk⟩, hcn, hsn, hK, hJ, hNs⟩ := Γ
  subst hp
  intro H locs ls h1 h2 h3
  exact lv_sipush hx hb hd hv (kk H locs ls h1 h2 h3)
theorem X_iload_n (Γ : XC Y l R s m args cc nL own ret cn sn QQ D cl tys N a) {k : Fin 4} {i : Nat} {x : Int32} (hd : decode cc pc = .ok (.iload_n k, 1)) (hi : (k : Nat) = i) (q : Nat) (hl : L[q]? = some (i, .int x)) (hp : pc + 1 = pc') (kk : X Y s m D cl N a nL E pc' L (.int x :: st)) : X Y s m D cl N a nL E pc L st := by
  obtain ⟨⟨p, e, below, meth, c, rfl, ⟨hx, hb, hml, hown, hts⟩, hr, hlk⟩, hcn, hsn, hK, hJ, hNs⟩ := Γ
  subst hp
  intro H locs ls h1 h2 h3
  exact lv_iload_n hx hb hd hi (lv_at h3 q hl) (kk H locs ls h1 h2 h3)
theorem X_iload (Γ : XC Y l R s m args cc nL own ret cn sn QQ D cl tys N a) {i : Nat} {x : Int32} (hd : decode cc pc = .ok (.iload i, 2)) (q : Nat) (hl : L[q]? = some (i, .int x)) (hp : pc + 2 = pc') (kk : X Y s m D cl N a nL E pc' L (.int x :: st)) : X Y s m D cl N a nL E pc L st := by
  obtain ⟨⟨p, e, below, meth, c, rfl, ⟨hx, hb, hml, hown, hts⟩, hr, hlk⟩, hcn, hsn, hK, hJ, hNs⟩ := Γ
  subst hp
  intro H locs ls h1 h2 h3
  exact lv_iload hx hb hd (lv_at h3 q hl) (kk H locs ls h1 h2 h3)
theorem X_istore_n (Γ : XC Y l R s m args cc nL own ret cn sn QQ D cl tys N a) {k : Fin 4} {i : Nat} {x : Int32} (hd : decode cc pc = .ok (.istore_n k, 1)) (hi : (k : Nat) = i) (hn : i < nL) (hl : (i, Value.int x) :: L.filter (fun q => !(q.1 == i) && !(q.1 + 1 == i && q.2.category == 2)) = L') (hp : pc + 1 = pc') (kk : X Y s m D cl N a nL E pc' L' st) : X Y s m D cl N a nL E pc L (.int x :: st) := by
  obtain ⟨⟨p, e, below, meth, c, rfl, ⟨hx, hb, hml, hown, hts⟩, hr, hlk⟩, hcn, hsn, hK, hJ, hNs⟩ := Γ
  subst hp
  intro H locs ls h1 h2 h3
  exact lv_istore_n hx hb hd hi h3 hn hl (fun ls' h' => kk H locs ls' h1 h2 h')
theorem X_istore (Γ : XC Y l R s m args cc nL own ret cn sn QQ D cl tys N a) {i : Nat} {x : Int32} (hd : decode cc pc = .ok (.istore i, 2)) (hn : i < nL) (hl : (i, Value.int x) :: L.filter (fun q => !(q.1 == i) && !(q.1 + 1 == i && q.2.category == 2)) = L') (hp : pc + 2 = pc') (kk : X Y s m D cl N a nL E pc' L' st) : X Y s m D cl N a nL E pc L (.int x :: st) := by
  obtain ⟨⟨p, e, below, meth, c, rfl, ⟨hx, hb, hml, hown, hts⟩, hr, hlk⟩, hcn, hsn, hK, hJ, hNs⟩ := Γ
  subst hp
  intro H locs ls h1 h2 h3
  exact lv_istore hx hb hd h3 hn hl (fun ls' h' => kk H locs ls' h1 h2 h')
theorem X_aload_n (Γ : XC Y l R s m args cc nL own ret cn sn QQ D cl tys N a) {k : Fin 4} {i : Nat} {x : Nat} (hd : decode cc pc = .ok (.aload_n k, 1)) (hi : (k : Nat) = i) (q : Nat) (hl : L[q]? = some (i, .ref x)) (hp : pc + 1 = pc') (kk : X Y s m D cl N a nL E pc' L (.ref x :: st)) : X Y s m D cl N a nL E pc L st := by
  obtain ⟨⟨p, e, below, meth, c, rfl, ⟨hx, hb, hml, hown, hts⟩, hr, hlk⟩, hcn, hsn, hK, hJ, hNs⟩ := Γ
  subst hp
  intro H locs ls h1 h2 h3
  exact lv_aload_n hx hb hd hi (lv_at h3 q hl) (kk H locs ls h1 h2 h3)
theorem X_aload (Γ : XC Y l R s m args cc nL own ret cn sn QQ D cl tys N a) {i : Nat} {x : Nat} (hd : decode cc pc = .ok (.aload i, 2)) (q : Nat) (hl : L[q]? = some (i, .ref x)) (hp : pc + 2 = pc') (kk : X Y s m D cl N a nL E pc' L (.ref x :: st)) : X Y s m D cl N a nL E pc L st := by
  obtain ⟨⟨p, e, below, meth, c, rfl, ⟨hx, hb, hml, hown, hts⟩, hr, hlk⟩, hcn, hsn, hK, hJ, hNs⟩ := Γ
  subst hp
  intro H locs ls h1 h2 h3
  exact lv_aload hx hb hd (lv_at h3 q hl) (kk H locs ls h1 h2 h3)
theorem X_astore_n (Γ : XC Y l R s m args cc nL own ret cn sn QQ D cl tys N a) {k : Fin 4} {i : Nat} {x : Nat} (hd : decode cc pc = .ok (.astore_n k, 1)) (hi : (k : Nat) = i) (hn : i < nL) (hl : (i, Value.ref x) :: L.filter (fun q => !(q.1 == i) && !(q.1 + 1 == i && q.2.category == 2)) = L') (hp : pc + 1 = pc') (kk : X Y s m D cl N a nL E pc' L' st) : X Y s m D cl N a nL E pc L (.ref x :: st) := by
  obtain ⟨⟨p, e, below, meth, c, rfl, ⟨hx, hb, hml, hown, hts⟩, hr, hlk⟩, hcn, hsn, hK, hJ, hNs⟩ := Γ
  subst hp
  intro H locs ls h1 h2 h3
  exact lv_astore_n hx hb hd hi h3 hn hl (fun ls' h' => kk H locs ls' h1 h2 h')
theorem X_astore (Γ : XC Y l R s m args cc nL own ret cn sn QQ D cl tys N a) {i : Nat} {x : Nat} (hd : decode cc pc = .ok (.astore i, 2)) (hn : i < nL) (hl : (i, Value.ref x) :: L.filter (fun q => !(q.1 == i) && !(q.1 + 1 == i && q.2.category == 2)) = L') (hp : pc + 2 = pc') (kk : X Y s m D cl N a nL E pc' L' st) : X Y s m D cl N a nL E pc L (.ref x :: st) := by
  obtain ⟨⟨p, e, below, meth, c, rfl, ⟨hx, hb, hml, hown, hts⟩, hr, hlk⟩, hcn, hsn, hK, hJ, hNs⟩ := Γ
  subst hp
  intro H locs ls h1 h2 h3
  exact lv_astore hx hb hd h3 hn hl (fun ls' h' => kk H locs ls' h1 h2 h')
theorem X_iinc (Γ : XC Y l R s m args cc nL own ret cn sn QQ D cl tys N a) {i : Nat} {n : Int} {x v : Int32} (hd : decode cc pc = .ok (.iinc i n, 3)) (q : Nat) (hq : L[q]? = some (i, .int x)) (hv : x + Int32.ofInt n = v) (hn : i < nL) (hl : (i, Value.int v) :: L.filter (fun q => !(q.1 == i) && !(q.1 + 1 == i && q.2.category == 2)) = L') (hp : pc + 3 = pc') (kk : X Y s m D cl N a nL E pc' L' st) : X Y s m D cl N a nL E pc L st := by
  obtain ⟨⟨p, e, below, meth, c, rfl, ⟨hx, hb, hml, hown, hts⟩, hr, hlk⟩, hcn, hsn, hK, hJ, hNs⟩ := Γ
  subst hp
  intro H locs ls h1 h2 h3
  exact lv_iinc hx hb hd h3 hq hv hn hl (fun ls' h' => kk H locs ls' h1 h2 h')
theorem X_iadd (Γ : XC Y l R s m args cc nL own ret cn sn QQ D cl tys N a) {x y : Int32} (hd : decode cc pc = .ok (.iadd, 1))  (hp : pc + 1 = pc') (kk : X Y s m D cl N a nL E pc' L (.int (x + y) :: st)) : X Y s m D cl N a nL E pc L (.int y :: .int x :: st) := by
  obtain ⟨⟨p, e, below, meth, c, rfl, ⟨hx, hb, hml, hown, hts⟩, hr, hlk⟩, hcn, hsn, hK, hJ, hNs⟩ := Γ
  subst hp
  intro H locs ls h1 h2 h3
  exact lv_iadd hx hb hd (kk H locs ls h1 h2 h3)
theorem X_isub (Γ : XC Y l R s m args cc nL own ret cn sn QQ D cl tys N a) {x y : Int32} (hd : decode cc pc = .ok (.isub, 1))  (hp : pc + 1 = pc') (kk : X Y s m D cl N a nL E pc' L (.int (x - y) :: st)) : X Y s m D cl N a nL E pc L (.int y :: .int x :: st) := by
  obtain ⟨⟨p, e, below, meth, c, rfl, ⟨hx, hb, hml, hown, hts⟩, hr, hlk⟩, hcn, hsn, hK, hJ, hNs⟩ := Γ
  subst hp
  intro H locs ls h1 h2 h3
  exact lv_isub hx hb hd (kk H locs ls h1 h2 h3)
theorem X_imul (Γ : XC Y l R s m args cc nL own ret cn sn QQ D cl tys N a) {x y : Int32} (hd : decode cc pc = .ok (.imul, 1))  (hp : pc + 1 = pc') (kk : X Y s m D cl N a nL E pc' L (.int (x * y) :: st)) : X Y s m D cl N a nL E pc L (.int y :: .int x :: st) := by
  obtain ⟨⟨p, e, below, meth, c, rfl, ⟨hx, hb, hml, hown, hts⟩, hr, hlk⟩, hcn, hsn, hK, hJ, hNs⟩ := Γ
  subst hp
  intro H locs ls h1 h2 h3
  exact lv_imul hx hb hd (kk H locs ls h1 h2 h3)
theorem X_iand (Γ : XC Y l R s m args cc nL own ret cn sn QQ D cl tys N a) {x y : Int32} (hd : decode cc pc = .ok (.iand, 1))  (hp : pc + 1 = pc') (kk : X Y s m D cl N a nL E pc' L (.int (x &&& y) :: st)) : X Y s m D cl N a nL E pc L (.int y :: .int x :: st) := by
  obtain ⟨⟨p, e, below, meth, c, rfl, ⟨hx, hb, hml, hown, hts⟩, hr, hlk⟩, hcn, hsn, hK, hJ, hNs⟩ := Γ
  subst hp
  intro H locs ls h1 h2 h3
  exact lv_iand hx hb hd (kk H locs ls h1 h2 h3)
theorem X_ior (Γ : XC Y l R s m args cc nL own ret cn sn QQ D cl tys N a) {x y : Int32} (hd : decode cc pc = .ok (.ior, 1))  (hp : pc + 1 = pc') (kk : X Y s m D cl N a nL E pc' L (.int (x ||| y) :: st)) : X Y s m D cl N a nL E pc L (.int y :: .int x :: st) := by
  obtain ⟨⟨p, e, below, meth, c, rfl, ⟨hx, hb, hml, hown, hts⟩, hr, hlk⟩, hcn, hsn, hK, hJ, hNs⟩ := Γ
  subst hp
  intro H locs ls h1 h2 h3
  exact lv_ior hx hb hd (kk H locs ls h1 h2 h3)
theorem X_ineg (Γ : XC Y l R s m args cc nL own ret cn sn QQ D cl tys N a) {x : Int32} (hd : decode cc pc = .ok (.ineg, 1))  (hp : pc + 1 = pc') (kk : X Y s m D cl N a nL E pc' L (.int (-x) :: st)) : X Y s m D cl N a nL E pc L (.int x :: st) := by
  obtain ⟨⟨p, e, below, meth, c, rfl, ⟨hx, hb, hml, hown, hts⟩, hr, hlk⟩, hcn, hsn, hK, hJ, hNs⟩ := Γ
  subst hp
  intro H locs ls h1 h2 h3
  exact lv_ineg hx hb hd (kk H locs ls h1 h2 h3)
theorem X_ishl (Γ : XC Y l R s m args cc nL own ret cn sn QQ D cl tys N a) {x y : Int32} (hd : decode cc pc = .ok (.ishl, 1))  (hp : pc + 1 = pc') (kk : X Y s m D cl N a nL E pc' L (.int (x <<< (y &&& 31)) :: st)) : X Y s m D cl N a nL E pc L (.int y :: .int x :: st) := by
  obtain ⟨⟨p, e, below, meth, c, rfl, ⟨hx, hb, hml, hown, hts⟩, hr, hlk⟩, hcn, hsn, hK, hJ, hNs⟩ := Γ
  subst hp
  intro H locs ls h1 h2 h3
  exact lv_ishl hx hb hd (kk H locs ls h1 h2 h3)
theorem X_ishr (Γ : XC Y l R s m args cc nL own ret cn sn QQ D cl tys N a) {x y : Int32} (hd : decode cc pc = .ok (.ishr, 1))  (hp : pc + 1 = pc') (kk : X Y s m D cl N a nL E pc' L (.int (x >>> (y &&& 31)) :: st)) : X Y s m D cl N a nL E pc L (.int y :: .int x :: st) := by
  obtain ⟨⟨p, e, below, meth, c, rfl, ⟨hx, hb, hml, hown, hts⟩, hr, hlk⟩, hcn, hsn, hK, hJ, hNs⟩ := Γ
  subst hp
  intro H locs ls h1 h2 h3
  exact lv_ishr hx hb hd (kk H locs ls h1 h2 h3)
theorem X_iushr (Γ : XC Y l R s m args cc nL own ret cn sn QQ D cl tys N a) {x y v : Int32} (hd : decode cc pc = .ok (.iushr, 1)) (hv : (x.toUInt32 >>> (y.toUInt32 &&& Int32.toUInt32 31)).toInt32 = v) (hp : pc + 1 = pc') (kk : X Y s m D cl N a nL E pc' L (.int v :: st)) : X Y s m D cl N a nL E pc L (.int y :: .int x :: st) := by
  obtain ⟨⟨p, e, below, meth, c, rfl, ⟨hx, hb, hml, hown, hts⟩, hr, hlk⟩, hcn, hsn, hK, hJ, hNs⟩ := Γ
  subst hp
  intro H locs ls h1 h2 h3
  exact lv_iushr hx hb hd hv (kk H locs ls h1 h2 h3)
theorem X_ldcw (Γ : XC Y l R s m args cc nL own ret cn sn QQ D cl tys N a) {index : Nat} {v : Int32} (hd : decode cc pc = .ok (.ldc_w index, 3)) (hc : Cond.constant own index v ∈ wsBig) (hp : pc + 3 = pc') (kk : X Y s m D cl N a nL E pc' L (.int v :: st)) : X Y s m D cl N a nL E pc L st := by
  obtain ⟨⟨p, e, below, meth, c, rfl, ⟨hx, hb, hml, hown, hts⟩, hr, hlk⟩, hcn, hsn, hK, hJ, hNs⟩ := Γ
  subst hp
  intro H locs ls h1 h2 h3
  exact lv_ldcw hx hb hown (hts _ hc) hd (kk H locs ls h1 h2 h3)
theorem X_alen (Γ : XC Y l R s m args cc nL own ret cn sn QQ D cl tys N a) {n len : Nat} {cA : ClassId} {ty : FieldType} {v : Int32} {f : Nat → Int32} (hd : decode cc pc = .ok (.arraylength, 1)) (hn : n < N) (hk : E n = .inl (cA, len, .inl f)) (t0 : Nat) (ht : tys[t0]? = some (cA, ty)) (hv : Int32.ofNat len = v) (hp : pc + 1 = pc') (kk : X Y s m D cl N a nL E pc' L (.int v :: st)) : X Y s m D cl N a nL E pc L (.ref (a n) :: st) := by
  obtain ⟨⟨p, e, below, meth, c, rfl, ⟨hx, hb, hml, hown, hts⟩, hr, hlk⟩, hcn, hsn, hK, hJ, hNs⟩ := Γ
  subst hp
  intro H locs ls h1 h2 h3
  exact va_alen hx hb hK h1 n t0 ((xw_at hn).trans (congrArg (fun e9 => some (a n, e9)) hk)) ht hv hd (kk H locs ls h1 h2 h3)
theorem X_dup (Γ : XC Y l R s m args cc nL own ret cn sn QQ D cl tys N a) {va : Value} (hd : decode cc pc = .ok (.dup, 1)) (hva : va.category = 1) (hp : pc + 1 = pc') (kk : X Y s m D cl N a nL E pc' L (va :: va :: st)) : X Y s m D cl N a nL E pc L (va :: st) := by
  obtain ⟨⟨p, e, below, meth, c, rfl, ⟨hx, hb, hml, hown, hts⟩, hr, hlk⟩, hcn, hsn, hK, hJ, hNs⟩ := Γ
  subst hp
  intro H locs ls h1 h2 h3
  exact lv_dup hx hb hd hva (kk H locs ls h1 h2 h3)
theorem X_dup_x1 (Γ : XC Y l R s m args cc nL own ret cn sn QQ D cl tys N a) {va vb : Value} (hd : decode cc pc = .ok (.dup_x1, 1)) (hva : va.category = 1) (hvb : vb.category = 1) (hp : pc + 1 = pc') (kk : X Y s m D cl N a nL E pc' L (va :: vb :: va :: st)) : X Y s m D cl N a nL E pc L (va :: vb :: st) := by
  obtain ⟨⟨p, e, below, meth, c, rfl, ⟨hx, hb, hml, hown, hts⟩, hr, hlk⟩, hcn, hsn, hK, hJ, hNs⟩ := Γ
  subst hp
  intro H locs ls h1 h2 h3
  exact lv_dup_x1 hx hb hd hva hvb (kk H locs ls h1 h2 h3)
theorem X_dup2 (Γ : XC Y l R s m args cc nL own ret cn sn QQ D cl tys N a) {va vb : Value} (hd : decode cc pc = .ok (.dup2, 1)) (hva : va.category = 1) (hvb : vb.category = 1) (hp : pc + 1 = pc') (kk : X Y s m D cl N a nL E pc' L (va :: vb :: va :: vb :: st)) : X Y s m D cl N a nL E pc L (va :: vb :: st) := by
  obtain ⟨⟨p, e, below, meth, c, rfl, ⟨hx, hb, hml, hown, hts⟩, hr, hlk⟩, hcn, hsn, hK, hJ, hNs⟩ := Γ
  subst hp
  intro H locs ls h1 h2 h3
  exact lv_dup2_11 hx hb hd hva hvb (kk H locs ls h1 h2 h3)
theorem X_pop (Γ : XC Y l R s m args cc nL own ret cn sn QQ D cl tys N a) {va : Value} (hd : decode cc pc = .ok (.pop, 1)) (hva : va.category = 1) (hp : pc + 1 = pc') (kk : X Y s m D cl N a nL E pc' L st) : X Y s m D cl N a nL E pc L (va :: st) := by
  obtain ⟨⟨p, e, below, meth, c, rfl, ⟨hx, hb, hml, hown, hts⟩, hr, hlk⟩, hcn, hsn, hK, hJ, hNs⟩ := Γ
  subst hp
  intro H locs ls h1 h2 h3
  exact lv_pop hx hb hd hva (kk H locs ls h1 h2 h3)
theorem X_null (Γ : XC Y l R s m args cc nL own ret cn sn QQ D cl tys N a)  (hd : decode cc pc = .ok (.aconst_null, 1))  (hp : pc + 1 = pc') (kk : X Y s m D cl N a nL E pc' L (.null :: st)) : X Y s m D cl N a nL E pc L st := by
  obtain ⟨⟨p, e, below, meth, c, rfl, ⟨hx, hb, hml, hown, hts⟩, hr, hlk⟩, hcn, hsn, hK, hJ, hNs⟩ := Γ
  subst hp
  intro H locs ls h1 h2 h3
  exact lv_null hx hb hd (kk H locs ls h1 h2 h3)
theorem X_aload_nN (Γ : XC Y l R s m args cc nL own ret cn sn QQ D cl tys N a) {k : Fin 4} {i : Nat} (hd : decode cc pc = .ok (.aload_n k, 1)) (hi : (k : Nat) = i) (q : Nat) (hl : L[q]? = some (i, .null)) (hp : pc + 1 = pc') (kk : X Y s m D cl N a nL E pc' L (.null :: st)) : X Y s m D cl N a nL E pc L st := by
  obtain ⟨⟨p, e, below, meth, c, rfl, ⟨hx, hb, hml, hown, hts⟩, hr, hlk⟩, hcn, hsn, hK, hJ, hNs⟩ := Γ
  subst hp
  intro H locs ls h1 h2 h3
  exact lv_aload_nN hx hb hd hi (lv_at h3 q hl) (kk H locs ls h1 h2 h3)
theorem X_aloadN (Γ : XC Y l R s m args cc nL own ret cn sn QQ D cl tys N a) {i : Nat} (hd : decode cc pc = .ok (.aload i, 2)) (q : Nat) (hl : L[q]? = some (i, .null)) (hp : pc + 2 = pc') (kk : X Y s m D cl N a nL E pc' L (.null :: st)) : X Y s m D cl N a nL E pc L st := by
  obtain ⟨⟨p, e, below, meth, c, rfl, ⟨hx, hb, hml, hown, hts⟩, hr, hlk⟩, hcn, hsn, hK, hJ, hNs⟩ := Γ
  subst hp
  intro H locs ls h1 h2 h3
  exact lv_aloadN hx hb hd (lv_at h3 q hl) (kk H locs ls h1 h2 h3)
theorem X_astore_nN (Γ : XC Y l R s m args cc nL own ret cn sn QQ D cl tys N a) {k : Fin 4} {i : Nat} (hd : decode cc pc = .ok (.astore_n k, 1)) (hi : (k : Nat) = i) (hn : i < nL) (hl : (i, Value.null) :: L.filter (fun q => !(q.1 == i) && !(q.1 + 1 == i && q.2.category == 2)) = L') (hp : pc + 1 = pc') (kk : X Y s m D cl N a nL E pc' L' st) : X Y s m D cl N a nL E pc L (.null :: st) := by
  obtain ⟨⟨p, e, below, meth, c, rfl, ⟨hx, hb, hml, hown, hts⟩, hr, hlk⟩, hcn, hsn, hK, hJ, hNs⟩ := Γ
  subst hp
  intro H locs ls h1 h2 h3
  exact lv_astore_nN hx hb hd hi h3 hn hl (fun ls' h' => kk H locs ls' h1 h2 h')
theorem X_astoreN (Γ : XC Y l R s m args cc nL own ret cn sn QQ D cl tys N a) {i : Nat} (hd : decode cc pc = .ok (.astore i, 2)) (hn : i < nL) (hl : (i, Value.null) :: L.filter (fun q => !(q.1 == i) && !(q.1 + 1 == i && q.2.category == 2)) = L') (hp : pc + 2 = pc') (kk : X Y s m D cl N a nL E pc' L' st) : X Y s m D cl N a nL E pc L (.null :: st) := by
  obtain ⟨⟨p, e, below, meth, c, rfl, ⟨hx, hb, hml, hown, hts⟩, hr, hlk⟩, hcn, hsn, hK, hJ, hNs⟩ := Γ
  subst hp
  intro H locs ls h1 h2 h3
  exact lv_astoreN hx hb hd h3 hn hl (fun ls' h' => kk H locs ls' h1 h2 h')
theorem X_goto (Γ : XC Y l R s m args cc nL own ret cn sn QQ D cl tys N a) {off : Int} (hd : decode cc pc = .ok (.goto off, 3)) (ht : (pc : Int) + off = (pc' : Int)) (kk : X Y s m D cl N a nL E pc' L st) : X Y s m D cl N a nL E pc L st := by
  obtain ⟨⟨p, e, below, meth, c, rfl, ⟨hx, hb, hml, hown, hts⟩, hr, hlk⟩, hcn, hsn, hK, hJ, hNs⟩ := Γ
  intro H locs ls h1 h2 h3
  exact lv_goto hx hb hd ht (kk H locs ls h1 h2 h3)
theorem X_if_eq (Γ : XC Y l R s m args cc nL own ret cn sn QQ D cl tys N a) {x : Int32} {off : Int} {tgt : Nat} (hd : decode cc pc = .ok (.ifCond .eq off, 3)) (ht : (pc : Int) + off = (tgt : Int)) (hp : pc + 3 = pc') (kt : x = 0 → X Y s m D cl N a nL E tgt L st) (kf : ¬ x = 0 → X Y s m D cl N a nL E pc' L st) : X Y s m D cl N a nL E pc L (.int x :: st) := by
  obtain ⟨⟨p, e, below, meth, c, rfl, ⟨hx, hb, hml, hown, hts⟩, hr, hlk⟩, hcn, hsn, hK, hJ, hNs⟩ := Γ
  subst hp
  intro H locs ls h1 h2 h3
  exact lv_if_eq hx hb hd ht (fun h => kt h H locs ls h1 h2 h3) (fun h => kf h H locs ls h1 h2 h3)
theorem X_icmp_eq (Γ : XC Y l R s m args cc nL own ret cn sn QQ D cl tys N a) {x y : Int32} {off : Int} {tgt : Nat} (hd : decode cc pc = .ok (.if_icmp .eq off, 3)) (ht : (pc : Int) + off = (tgt : Int)) (hp : pc + 3 = pc') (kt : x = y → X Y s m D cl N a nL E tgt L st) (kf : ¬ x = y → X Y s m D cl N a nL E pc' L st) : X Y s m D cl N a nL E pc L (.int y :: .int x :: st) := by
  obtain ⟨⟨p, e, below, meth, c, rfl, ⟨hx, hb, hml, hown, hts⟩, hr, hlk⟩, hcn, hsn, hK, hJ, hNs⟩ := Γ
  subst hp
  intro H locs ls h1 h2 h3
  exact lv_icmp_eq hx hb hd ht (fun h => kt h H locs ls h1 h2 h3) (fun h => kf h H locs ls h1 h2 h3)
theorem X_if_ne (Γ : XC Y l R s m args cc nL own ret cn sn QQ D cl tys N a) {x : Int32} {off : Int} {tgt : Nat} (hd : decode cc pc = .ok (.ifCond .ne off, 3)) (ht : (pc : Int) + off = (tgt : Int)) (hp : pc + 3 = pc') (kt : ¬ x = 0 → X Y s m D cl N a nL E tgt L st) (kf : x = 0 → X Y s m D cl N a nL E pc' L st) : X Y s m D cl N a nL E pc L (.int x :: st) := by
  obtain ⟨⟨p, e, below, meth, c, rfl, ⟨hx, hb, hml, hown, hts⟩, hr, hlk⟩, hcn, hsn, hK, hJ, hNs⟩ := Γ
  subst hp
  intro H locs ls h1 h2 h3
  exact lv_if_ne hx hb hd ht (fun h => kt h H locs ls h1 h2 h3) (fun h => kf h H locs ls h1 h2 h3)
theorem X_icmp_ne (Γ : XC Y l R s m args cc nL own ret cn sn QQ D cl tys N a) {x y : Int32} {off : Int} {tgt : Nat} (hd : decode cc pc = .ok (.if_icmp .ne off, 3)) (ht : (pc : Int) + off = (tgt : Int)) (hp : pc + 3 = pc') (kt : ¬ x = y → X Y s m D cl N a nL E tgt L st) (kf : x = y → X Y s m D cl N a nL E pc' L st) : X Y s m D cl N a nL E pc L (.int y :: .int x :: st) := by
  obtain ⟨⟨p, e, below, meth, c, rfl, ⟨hx, hb, hml, hown, hts⟩, hr, hlk⟩, hcn, hsn, hK, hJ, hNs⟩ := Γ
  subst hp
  intro H locs ls h1 h2 h3
  exact lv_icmp_ne hx hb hd ht (fun h => kt h H locs ls h1 h2 h3) (fun h => kf h H locs ls h1 h2 h3)
theorem X_if_lt (Γ : XC Y l R s m args cc nL own ret cn sn QQ D cl tys N a) {x : Int32} {off : Int} {tgt : Nat} (hd : decode cc pc = .ok (.ifCond .lt off, 3)) (ht : (pc : Int) + off = (tgt : Int)) (hp : pc + 3 = pc') (kt : x < 0 → X Y s m D cl N a nL E tgt L st) (kf : ¬ x < 0 → X Y s m D cl N a nL E pc' L st) : X Y s m D cl N a nL E pc L (.int x :: st) := by
  obtain ⟨⟨p, e, below, meth, c, rfl, ⟨hx, hb, hml, hown, hts⟩, hr, hlk⟩, hcn, hsn, hK, hJ, hNs⟩ := Γ
  subst hp
  intro H locs ls h1 h2 h3
  exact lv_if_lt hx hb hd ht (fun h => kt h H locs ls h1 h2 h3) (fun h => kf h H locs ls h1 h2 h3)
theorem X_icmp_lt (Γ : XC Y l R s m args cc nL own ret cn sn QQ D cl tys N a) {x y : Int32} {off : Int} {tgt : Nat} (hd : decode cc pc = .ok (.if_icmp .lt off, 3)) (ht : (pc : Int) + off = (tgt : Int)) (hp : pc + 3 = pc') (kt : x < y → X Y s m D cl N a nL E tgt L st) (kf : ¬ x < y → X Y s m D cl N a nL E pc' L st) : X Y s m D cl N a nL E pc L (.int y :: .int x :: st) := by
  obtain ⟨⟨p, e, below, meth, c, rfl, ⟨hx, hb, hml, hown, hts⟩, hr, hlk⟩, hcn, hsn, hK, hJ, hNs⟩ := Γ
  subst hp
  intro H locs ls h1 h2 h3
  exact lv_icmp_lt hx hb hd ht (fun h => kt h H locs ls h1 h2 h3) (fun h => kf h H locs ls h1 h2 h3)
theorem X_if_ge (Γ : XC Y l R s m args cc nL own ret cn sn QQ D cl tys N a) {x : Int32} {off : Int} {tgt : Nat} (hd : decode cc pc = .ok (.ifCond .ge off, 3)) (ht : (pc : Int) + off = (tgt : Int)) (hp : pc + 3 = pc') (kt : 0 ≤ x → X Y s m D cl N a nL E tgt L st) (kf : ¬ 0 ≤ x → X Y s m D cl N a nL E pc' L st) : X Y s m D cl N a nL E pc L (.int x :: st) := by
  obtain ⟨⟨p, e, below, meth, c, rfl, ⟨hx, hb, hml, hown, hts⟩, hr, hlk⟩, hcn, hsn, hK, hJ, hNs⟩ := Γ
  subst hp
  intro H locs ls h1 h2 h3
  exact lv_if_ge hx hb hd ht (fun h => kt h H locs ls h1 h2 h3) (fun h => kf h H locs ls h1 h2 h3)
theorem X_icmp_ge (Γ : XC Y l R s m args cc nL own ret cn sn QQ D cl tys N a) {x y : Int32} {off : Int} {tgt : Nat} (hd : decode cc pc = .ok (.if_icmp .ge off, 3)) (ht : (pc : Int) + off = (tgt : Int)) (hp : pc + 3 = pc') (kt : y ≤ x → X Y s m D cl N a nL E tgt L st) (kf : ¬ y ≤ x → X Y s m D cl N a nL E pc' L st) : X Y s m D cl N a nL E pc L (.int y :: .int x :: st) := by
  obtain ⟨⟨p, e, below, meth, c, rfl, ⟨hx, hb, hml, hown, hts⟩, hr, hlk⟩, hcn, hsn, hK, hJ, hNs⟩ := Γ
  subst hp
  intro H locs ls h1 h2 h3
  exact lv_icmp_ge hx hb hd ht (fun h => kt h H locs ls h1 h2 h3) (fun h => kf h H locs ls h1 h2 h3)
theorem X_if_gt (Γ : XC Y l R s m args cc nL own ret cn sn QQ D cl tys N a) {x : Int32} {off : Int} {tgt : Nat} (hd : decode cc pc = .ok (.ifCond .gt off, 3)) (ht : (pc : Int) + off = (tgt : Int)) (hp : pc + 3 = pc') (kt : 0 < x → X Y s m D cl N a nL E tgt L st) (kf : ¬ 0 < x → X Y s m D cl N a nL E pc' L st) : X Y s m D cl N a nL E pc L (.int x :: st) := by
  obtain ⟨⟨p, e, below, meth, c, rfl, ⟨hx, hb, hml, hown, hts⟩, hr, hlk⟩, hcn, hsn, hK, hJ, hNs⟩ := Γ
  subst hp
  intro H locs ls h1 h2 h3
  exact lv_if_gt hx hb hd ht (fun h => kt h H locs ls h1 h2 h3) (fun h => kf h H locs ls h1 h2 h3)
theorem X_icmp_gt (Γ : XC Y l R s m args cc nL own ret cn sn QQ D cl tys N a) {x y : Int32} {off : Int} {tgt : Nat} (hd : decode cc pc = .ok (.if_icmp .gt off, 3)) (ht : (pc : Int) + off = (tgt : Int)) (hp : pc + 3 = pc') (kt : y < x → X Y s m D cl N a nL E tgt L st) (kf : ¬ y < x → X Y s m D cl N a nL E pc' L st) : X Y s m D cl N a nL E pc L (.int y :: .int x :: st) := by
  obtain ⟨⟨p, e, below, meth, c, rfl, ⟨hx, hb, hml, hown, hts⟩, hr, hlk⟩, hcn, hsn, hK, hJ, hNs⟩ := Γ
  subst hp
  intro H locs ls h1 h2 h3
  exact lv_icmp_gt hx hb hd ht (fun h => kt h H locs ls h1 h2 h3) (fun h => kf h H locs ls h1 h2 h3)
theorem X_if_le (Γ : XC Y l R s m args cc nL own ret cn sn QQ D cl tys N a) {x : Int32} {off : Int} {tgt : Nat} (hd : decode cc pc = .ok (.ifCond .le off, 3)) (ht : (pc : Int) + off = (tgt : Int)) (hp : pc + 3 = pc') (kt : x ≤ 0 → X Y s m D cl N a nL E tgt L st) (kf : ¬ x ≤ 0 → X Y s m D cl N a nL E pc' L st) : X Y s m D cl N a nL E pc L (.int x :: st) := by
  obtain ⟨⟨p, e, below, meth, c, rfl, ⟨hx, hb, hml, hown, hts⟩, hr, hlk⟩, hcn, hsn, hK, hJ, hNs⟩ := Γ
  subst hp
  intro H locs ls h1 h2 h3
  exact lv_if_le hx hb hd ht (fun h => kt h H locs ls h1 h2 h3) (fun h => kf h H locs ls h1 h2 h3)
theorem X_icmp_le (Γ : XC Y l R s m args cc nL own ret cn sn QQ D cl tys N a) {x y : Int32} {off : Int} {tgt : Nat} (hd : decode cc pc = .ok (.if_icmp .le off, 3)) (ht : (pc : Int) + off = (tgt : Int)) (hp : pc + 3 = pc') (kt : x ≤ y → X Y s m D cl N a nL E tgt L st) (kf : ¬ x ≤ y → X Y s m D cl N a nL E pc' L st) : X Y s m D cl N a nL E pc L (.int y :: .int x :: st) := by
  obtain ⟨⟨p, e, below, meth, c, rfl, ⟨hx, hb, hml, hown, hts⟩, hr, hlk⟩, hcn, hsn, hK, hJ, hNs⟩ := Γ
  subst hp
  intro H locs ls h1 h2 h3
  exact lv_icmp_le hx hb hd ht (fun h => kt h H locs ls h1 h2 h3) (fun h => kf h H locs ls h1 h2 h3)
theorem X_ifnull (Γ : XC Y l R s m args cc nL own ret cn sn QQ D cl tys N a) {x : Nat} {off : Int} (hd : decode cc pc = .ok (.ifnull off, 3)) (hp : pc + 3 = pc') (kk : X Y s m D cl N a nL E pc' L st) : X Y s m D cl N a nL E pc L (.ref x :: st) := by
  obtain ⟨⟨p, e, below, meth, c, rfl, ⟨hx, hb, hml, hown, hts⟩, hr, hlk⟩, hcn, hsn, hK, hJ, hNs⟩ := Γ
  subst hp
  intro H locs ls h1 h2 h3
  exact lv_ifnull hx hb hd (kk H locs ls h1 h2 h3)
theorem X_ifnullN (Γ : XC Y l R s m args cc nL own ret cn sn QQ D cl tys N a) {off : Int} (hd : decode cc pc = .ok (.ifnull off, 3)) (ht : (pc : Int) + off = (pc' : Int)) (kk : X Y s m D cl N a nL E pc' L st) : X Y s m D cl N a nL E pc L (.null :: st) := by
  obtain ⟨⟨p, e, below, meth, c, rfl, ⟨hx, hb, hml, hown, hts⟩, hr, hlk⟩, hcn, hsn, hK, hJ, hNs⟩ := Γ
  intro H locs ls h1 h2 h3
  exact lv_ifnullN hx hb hd ht (kk H locs ls h1 h2 h3)
theorem X_ifnonnull (Γ : XC Y l R s m args cc nL own ret cn sn QQ D cl tys N a) {x : Nat} {off : Int} (hd : decode cc pc = .ok (.ifnonnull off, 3)) (ht : (pc : Int) + off = (pc' : Int)) (kk : X Y s m D cl N a nL E pc' L st) : X Y s m D cl N a nL E pc L (.ref x :: st) := by
  obtain ⟨⟨p, e, below, meth, c, rfl, ⟨hx, hb, hml, hown, hts⟩, hr, hlk⟩, hcn, hsn, hK, hJ, hNs⟩ := Γ
  intro H locs ls h1 h2 h3
  exact lv_ifnonnull hx hb hd ht (kk H locs ls h1 h2 h3)
theorem X_ifnonnullN (Γ : XC Y l R s m args cc nL own ret cn sn QQ D cl tys N a) {off : Int} (hd : decode cc pc = .ok (.ifnonnull off, 3)) (hp : pc + 3 = pc') (kk : X Y s m D cl N a nL E pc' L st) : X Y s m D cl N a nL E pc L (.null :: st) := by
  obtain ⟨⟨p, e, below, meth, c, rfl, ⟨hx, hb, hml, hown, hts⟩, hr, hlk⟩, hcn, hsn, hK, hJ, hNs⟩ := Γ
  subst hp
  intro H locs ls h1 h2 h3
  exact lv_ifnonnullN hx hb hd (kk H locs ls h1 h2 h3)
theorem X_loc (ks : List Nat) (hl : lv_pick L ks = L') (kk : X Y s m D cl N a nL E pc L' st) : X Y s m D cl N a nL E pc L st := fun H locs ls h1 h2 h3 => kk H locs ls h1 h2 (lv_sub h3 ks hl)
theorem X_tableIn (Γ : XC Y l R s m args cc nL own ret cn sn QQ D cl tys N a) {dflt lo hi : Int} {offs : Array Int} {len : Nat} {x v : Int32} {off : Int} (hd : decode cc pc = .ok (.tableswitch dflt lo hi offs, len)) (hx0 : x = v) (e1 : ¬ v.toInt < lo) (e2 : ¬ hi < v.toInt) (ho : offs[(v.toInt - lo).toNat]? = some off) (ht : (pc : Int) + off = (pc' : Int)) (kk : X Y s m D cl N a nL E pc' L st) : X Y s m D cl N a nL E pc L (.int x :: st) := by
  subst hx0
  obtain ⟨⟨p, e, below, meth, c, rfl, ⟨hx, hb, hml, hown, hts⟩, hr, hlk⟩, hcn, hsn, hK, hJ, hNs⟩ := Γ
  intro H locs ls h1 h2 h3
  exact lv_tableIn hx hb hd e1 e2 ho ht (kk H locs ls h1 h2 h3)
theorem X_tableOut (Γ : XC Y l R s m args cc nL own ret cn sn QQ D cl tys N a) {dflt lo hi : Int} {offs : Array Int} {len : Nat} {x : Int32} (hd : decode cc pc = .ok (.tableswitch dflt lo hi offs, len)) (h : x.toInt < lo ∨ hi < x.toInt) (ht : (pc : Int) + dflt = (pc' : Int)) (kk : X Y s m D cl N a nL E pc' L st) : X Y s m D cl N a nL E pc L (.int x :: st) := by
  obtain ⟨⟨p, e, below, meth, c, rfl, ⟨hx, hb, hml, hown, hts⟩, hr, hlk⟩, hcn, hsn, hK, hJ, hNs⟩ := Γ
  intro H locs ls h1 h2 h3
  exact lv_tableOut hx hb hd h ht (kk H locs ls h1 h2 h3)
theorem X_get (Γ : XC Y l R s m args cc nL own ret cn sn QQ D cl tys N a) {ref C : String} {T : u_T} {F n ci index : Nat} {fs : List Value} {v : Value} (hd : decode cc pc = .ok (.getfield index, 3)) (hn : n < N) (hk : E n = .inr (ci, fs)) (hc : cl[ci]? = some (C, T, F)) (hin : ∀ w ∈ u_ws C T F, w ∈ wsBig) (k : Nat) (hkF : k < F) (hlink : (Cond.fieldLink own index ref (T k).2.1 (T k).2.2.1) ∈ wsBig) (hsame : ref = (T k).1) (hv : fs[k]? = some v) (hp : pc + 3 = pc') (kk : X Y s m D cl N a nL E pc' L (v :: st)) : X Y s m D cl N a nL E pc L (.ref (a n) :: st) := by
  obtain ⟨⟨p, e, below, meth, c, rfl, ⟨hx, hb, hml, hown, hts⟩, hr, hlk⟩, hcn, hsn, hK, hJ, hNs⟩ := Γ
  subst hp
  intro H locs ls h1 h2 h3
  exact va_get hx hb hts hin hown hK h1 n ((xw_at hn).trans (congrArg (fun e9 => some (a n, e9)) hk)) hc k hkF (hts _ hlink) (fun x9 h9 => by rw [hsame]; exact h9) hv hd (kk H locs ls h1 h2 h3)
theorem X_put (Γ : XC Y l R s m args cc nL own ret cn sn QQ D cl tys N a) {ref C : String} {T : u_T} {F n ci index : Nat} {fs : List Value} {v : Int32} {ty : FieldType} (hd : decode cc pc = .ok (.putfield index, 3)) (hn : n < N) (hk : K n (G n) = .inr (ci, fs)) (hc : cl[ci]? = some (C, T, F)) (hin : ∀ w ∈ u_ws C T F, w ∈ wsBig) (k : Nat) (hkF : k < F) (hlink : (Cond.fieldLink own index ref (T k).2.1 (T k).2.2.1) ∈ wsBig) (hsame : ref = (T k).1) (ty0 : Nat → FieldType) (hty : ∀ k, k < F → parseFieldDescriptor (T k).2.2.1 = some (ty0 k)) (hnm : ∀ a, a < F → ∀ b, b < F → a ≠ b → (T a).2.1 ≠ (T b).2.1) (hfin : (T k).2.2.2 = false) (hde : parseFieldDescriptor (T k).2.2.1 = some ty) (hna : narrow ty (.int v) = .int v) (hfi : fits ty (.int v) = true) (hl : k < fs.length) (hk' : .inr (ci, fs.set k (.int v)) = K n (va_up (G n) k v)) (hp : pc + 3 = pc') (kk : X Y s m D cl N a nL (kg K (g2 G n k v)) pc' L st) : X Y s m D cl N a nL (kg K G) pc L (.int v :: .ref (a n) :: st) := by
  obtain ⟨⟨p, e, below, meth, c, rfl, ⟨hx, hb, hml, hown, hts⟩, hr, hlk⟩, hcn, hsn, hK, hJ, hNs⟩ := Γ
  subst hp
  intro H locs ls h1 h2 h3
  refine va_put hx hb hts hin ty0 hty hnm hown hK h1 (xD hJ) h2 n ((xw_at hn).trans (congrArg (fun e9 => some (a n, e9)) hk)) hc k hkF (hts _ hlink) (fun x9 h9 => by rw [hsame]; exact h9) hfin hde hna hfi hl hd (fun H1 locs1 q1 q2 q3 => ?_)
  rw [xw_set hn hk'] at q1
  exact kk H1 locs1 ls q1 q3 h3
theorem X_getN (Γ : XC Y l R s m args cc nL own ret cn sn QQ D cl tys N a) {ref C host : String} {T : u_T} {F n ci index : Nat} {fs : List Value} {v : Value} (hd : decode cc pc = .ok (.getfield index, 3)) (hn : n < N) (hk : E n = .inr (ci, fs)) (hc : cl[ci]? = some (C, T, F)) (hin : ∀ w ∈ u_ws C T F, w ∈ wsBig) (k : Nat) (hkF : k < F) (hlink : (Cond.fieldLinkNest own index ref (T k).2.1 (T k).2.2.1 host) ∈ xnl) (hsame : ref = (T k).1) (hv : fs[k]? = some v) (hp : pc + 3 = pc') (kk : X Y s m D cl N a nL E pc' L (v :: st)) : X Y s m D cl N a nL E pc L (.ref (a n) :: st) := by
  obtain ⟨⟨p, e, below, meth, c, rfl, ⟨hx, hb, hml, hown, hts⟩, hr, hlk⟩, hcn, hsn, hK, hJ, hNs⟩ := Γ
  subst hp
  intro H locs ls h1 h2 h3
  exact va_getN hx hb hts hin hown hK h1 n ((xw_at hn).trans (congrArg (fun e9 => some (a n, e9)) hk)) hc k hkF (va_Nw.use rfl (hNs _ hlink)) (fun x9 h9 => by rw [hsame]; exact h9) hv hd (kk H locs ls h1 h2 h3)
theorem X_putN (Γ : XC Y l R s m args cc nL own ret cn sn QQ D cl tys N a) {ref C host : String} {T : u_T} {F n ci index : Nat} {fs : List Value} {v : Int32} {ty : FieldType} (hd : decode cc pc = .ok (.putfield index, 3)) (hn : n < N) (hk : K n (G n) = .inr (ci, fs)) (hc : cl[ci]? = some (C, T, F)) (hin : ∀ w ∈ u_ws C T F, w ∈ wsBig) (k : Nat) (hkF : k < F) (hlink : (Cond.fieldLinkNest own index ref (T k).2.1 (T k).2.2.1 host) ∈ xnl) (hsame : ref = (T k).1) (ty0 : Nat → FieldType) (hty : ∀ k, k < F → parseFieldDescriptor (T k).2.2.1 = some (ty0 k)) (hnm : ∀ a, a < F → ∀ b, b < F → a ≠ b → (T a).2.1 ≠ (T b).2.1) (hfin : (T k).2.2.2 = false) (hde : parseFieldDescriptor (T k).2.2.1 = some ty) (hna : narrow ty (.int v) = .int v) (hfi : fits ty (.int v) = true) (hl : k < fs.length) (hk' : .inr (ci, fs.set k (.int v)) = K n (va_up (G n) k v)) (hp : pc + 3 = pc') (kk : X Y s m D cl N a nL (kg K (g2 G n k v)) pc' L st) : X Y s m D cl N a nL (kg K G) pc L (.int v :: .ref (a n) :: st) := by
  obtain ⟨⟨p, e, below, meth, c, rfl, ⟨hx, hb, hml, hown, hts⟩, hr, hlk⟩, hcn, hsn, hK, hJ, hNs⟩ := Γ
  subst hp
  intro H locs ls h1 h2 h3
  refine va_putN hx hb hts hin ty0 hty hnm hown hK h1 (xD hJ) h2 n ((xw_at hn).trans (congrArg (fun e9 => some (a n, e9)) hk)) hc k hkF (va_Nw.use rfl (hNs _ hlink)) (fun x9 h9 => by rw [hsame]; exact h9) hfin hde hna hfi hl hd (fun H1 locs1 q1 q2 q3 => ?_)
  rw [xw_set hn hk'] at q1
  exact kk H1 locs1 ls q1 q3 h3
theorem X_iald (Γ : XC Y l R s m args cc nL own ret cn sn QQ D cl tys N a) {n len : Nat} {cA : ClassId} {i v : Int32} {f : Nat → Int32} (hd : decode cc pc = .ok (.iaload, 1)) (hn : n < N) (hk : E n = .inl (cA, len, .inl f)) (t0 : Nat) (ht : tys[t0]? = some (cA, .int)) (hi : vp_in i len) (hv : f i.toNatClampNeg = v) (hp : pc + 1 = pc') (kk : X Y s m D cl N a nL E pc' L (.int v :: st)) : X Y s m D cl N a nL E pc L (.int i :: .ref (a n) :: st) := by
  obtain ⟨⟨p, e, below, meth, c, rfl, ⟨hx, hb, hml, hown, hts⟩, hr, hlk⟩, hcn, hsn, hK, hJ, hNs⟩ := Γ
  subst hv
  subst hp
  intro H locs ls h1 h2 h3
  exact va_iald hx hb hK h1 n t0 ((xw_at hn).trans (congrArg (fun e9 => some (a n, e9)) hk)) ht hi hd (kk H locs ls h1 h2 h3)
theorem X_iast (Γ : XC Y l R s m args cc nL own ret cn sn QQ D cl tys N a) {n len kx : Nat} {cA : ClassId} {i v : Int32} (hd : decode cc pc = .ok (.iastore, 1)) (hn : n < N) (hk : K n (G n) = .inl (cA, len, .inl (G n))) (t0 : Nat) (ht : tys[t0]? = some (cA, .int)) (hi : vp_in i len) (hk' : ∀ f, K n f = .inl (cA, len, .inl f)) (hx9 : i.toNatClampNeg = kx) (hp : pc + 1 = pc') (kk : X Y s m D cl N a nL (kg K (g2 G n kx v)) pc' L st) : X Y s m D cl N a nL (kg K G) pc L (.int v :: .int i :: .ref (a n) :: st) := by
  obtain ⟨⟨p, e, below, meth, c, rfl, ⟨hx, hb, hml, hown, hts⟩, hr, hlk⟩, hcn, hsn, hK, hJ, hNs⟩ := Γ
  subst hx9
  subst hp
  intro H locs ls h1 h2 h3
  refine va_iast hx hb hK h1 (xD hJ) h2 n t0 ((xw_at hn).trans (congrArg (fun e9 => some (a n, e9)) hk)) ht hi hd (fun H1 locs1 q1 q2 q3 => ?_)
  rw [xw_set (k := i.toNatClampNeg) (v := v) hn (by rw [hk']; rfl)] at q1
  exact kk H1 locs1 ls q1 q3 h3
theorem X_zald (Γ : XC Y l R s m args cc nL own ret cn sn QQ D cl tys N a) {n len : Nat} {cA : ClassId} {i v : Int32} {f : Nat → Int32} (hd : decode cc pc = .ok (.baload, 1)) (hn : n < N) (hk : E n = .inl (cA, len, .inl f)) (t0 : Nat) (ht : tys[t0]? = some (cA, .boolean)) (hi : vp_in i len) (hv : f i.toNatClampNeg = v) (hp : pc + 1 = pc') (kk : X Y s m D cl N a nL E pc' L (.int v :: st)) : X Y s m D cl N a nL E pc L (.int i :: .ref (a n) :: st) := by
  obtain ⟨⟨p, e, below, meth, c, rfl, ⟨hx, hb, hml, hown, hts⟩, hr, hlk⟩, hcn, hsn, hK, hJ, hNs⟩ := Γ
  subst hv
  subst hp
  intro H locs ls h1 h2 h3
  exact va_zald hx hb hK h1 n t0 ((xw_at hn).trans (congrArg (fun e9 => some (a n, e9)) hk)) ht hi hd (kk H locs ls h1 h2 h3)
theorem X_zast (Γ : XC Y l R s m args cc nL own ret cn sn QQ D cl tys N a) {n len kx : Nat} {cA : ClassId} {i v : Int32} (hd : decode cc pc = .ok (.bastore, 1)) (hn : n < N) (hk : K n (G n) = .inl (cA, len, .inl (G n))) (t0 : Nat) (ht : tys[t0]? = some (cA, .boolean)) (hi : vp_in i len) (hz : vp_nar .boolean v = v) (hk' : ∀ f, K n f = .inl (cA, len, .inl f)) (hx9 : i.toNatClampNeg = kx) (hp : pc + 1 = pc') (kk : X Y s m D cl N a nL (kg K (g2 G n kx v)) pc' L st) : X Y s m D cl N a nL (kg K G) pc L (.int v :: .int i :: .ref (a n) :: st) := by
  obtain ⟨⟨p, e, below, meth, c, rfl, ⟨hx, hb, hml, hown, hts⟩, hr, hlk⟩, hcn, hsn, hK, hJ, hNs⟩ := Γ
  subst hx9
  subst hp
  intro H locs ls h1 h2 h3
  refine va_zast hx hb hK h1 (xD hJ) h2 n t0 ((xw_at hn).trans (congrArg (fun e9 => some (a n, e9)) hk)) ht hi hd (fun H1 locs1 q1 q2 q3 => ?_)
  rw [hz] at q1
  rw [xw_set (k := i.toNatClampNeg) (v := v) hn (by rw [hk']; rfl)] at q1
  exact kk H1 locs1 ls q1 q3 h3
theorem X_aald (Γ : XC Y l R s m args cc nL own ret cn sn QQ D cl tys N a) {n len y : Nat} {cA : ClassId} {C : String} {i : Int32} {f : Nat → Option Nat} (hd : decode cc pc = .ok (.aaload, 1)) (hn : n < N) (hk : E n = .inl (cA, len, .inr (.inr (.inr (.inr f))))) (t0 : Nat) (ht : tys[t0]? = some (cA, .object C)) (hi : vp_in i len) (hf : f i.toNatClampNeg = some y) (hp : pc + 1 = pc') (kk : X Y s m D cl N a nL E pc' L (.ref y :: st)) : X Y s m D cl N a nL E pc L (.int i :: .ref (a n) :: st) := by
  obtain ⟨⟨p, e, below, meth, c, rfl, ⟨hx, hb, hml, hown, hts⟩, hr, hlk⟩, hcn, hsn, hK, hJ, hNs⟩ := Γ
  subst hp
  intro H locs ls h1 h2 h3
  refine va_aldq hx hb hK h1 n t0 ((xw_at hn).trans (congrArg (fun e9 => some (a n, e9)) hk)) ht hi hd ?_
  rw [hf]
  exact (kk H locs ls h1 h2 h3)
theorem X_aast (Γ : XC Y l R s m args cc nL own ret cn sn QQ D cl tys N a) {n len w ci : Nat} {cA : ClassId} {r : vw_C} {vs : List Value} {i : Int32} {f : Nat → Option Nat} {K' : Nat → (Nat → Int32) → va_E} (hd : decode cc pc = .ok (.aastore, 1)) (hn : n < N) (hk : K n (G n) = .inl (cA, len, .inr (.inr (.inr (.inr f))))) (t0 : Nat) (ht : tys[t0]? = some (cA, .object r.1)) (hw : w < N) (hkw : K w (G w) = .inr (ci, vs)) (hc : cl[ci]? = some r) (hi : vp_in i len) (hK' : ∀ j, j ≠ n → K' j = K j) (hKn : K' n (G n) = .inl (cA, len, .inr (.inr (.inr (.inr (va_up f i.toNatClampNeg (some (a w)))))))) (hp : pc + 1 = pc') (kk : X Y s m D cl N a nL (kg K' G) pc' L st) : X Y s m D cl N a nL (kg K G) pc L (.ref (a w) :: .int i :: .ref (a n) :: st) := by
  obtain ⟨⟨p, e, below, meth, c, rfl, ⟨hx, hb, hml, hown, hts⟩, hr, hlk⟩, hcn, hsn, hK, hJ, hNs⟩ := Γ
  subst hp
  intro H locs ls h1 h2 h3
  refine va_astq hx hb hK h1 (xD hJ) h2 n t0 w ci ((xw_at hn).trans (congrArg (fun e9 => some (a n, e9)) hk)) ht ((xw_at hw).trans (congrArg (fun e9 => some (a w, e9)) hkw)) hc hi hd (fun H1 locs1 q1 q2 q3 => kk H1 locs1 ls ?_ q3 h3)
  have hq : (xw N a (kg K G)).set n (a n, .inl (cA, len, .inr (.inr (.inr (.inr (va_up f i.toNatClampNeg (some (a w)))))))) = xw N a (kg K' G) := by
    rw [xw_setE hn]
    apply xw_eq
    intro j _
    by_cases hj : j = n
    · subst hj
      rw [va_up_self]
      exact hKn.symm
    · rw [va_up_ne _ _ hj]
      show K j (G j) = K' j (G j)
      rw [hK' j hj]
  rw [hq] at q1
  exact q1
/-- a contract's start and its end, over one world -/
abbrev xP (D : va_G) (cl : List vw_C) (tys : List (ClassId × FieldType)) (N : Nat) (a : Nat → Nat) (E : Nat → va_E) (av : List Value) : Array Value → State → Prop := va_Pc av (fun U => va_P D cl (xw N a E) U.heap ∧ va_K D cl tys U ∧ xN U)
abbrev xQi (D : va_G) (cl : List vw_C) (N : Nat) (a : Nat → Nat) (r : Int32) (E : Nat → va_E) : Array Value → State → Outcome → State → Prop := va_Qi (S := Unit) (fun x _ => x = r) (fun _ t => va_P D cl (xw N a E) t.heap) (xA N a)
abbrev xQv (D : va_G) (cl : List vw_C) (N : Nat) (a : Nat → Nat) (E : Nat → va_E) : Array Value → State → Outcome → State → Prop := va_Qv (S := Unit) (fun _ => True) (fun _ t => va_P D cl (xw N a E) t.heap) (xA N a)
abbrev xQq (D : va_G) (cl : List vw_C) (N : Nat) (a : Nat → Nat) (r : Option Nat) (E : Nat → va_E) : Array Value → State → Outcome → State → Prop := va_Qq (S := Unit) (fun x _ => x = r) (fun _ t => va_P D cl (xw N a E) t.heap) (xA N a)
theorem X_ireti {v r : Int32} (Γ : XC Y l R s m args cc nL own (some .int) cn sn (fun below => MQ below (xQi D cl N a r E') args s cn sn (xA N a)) D cl tys N a) (hd : decode cc pc = .ok (.ireturn, 1))  (hv : v = r) (hE' : E = E') : X Y s m D cl N a nL E pc L [.int v] := by
  subst hE'
  obtain ⟨⟨p, e, below, meth, c, rfl, ⟨hx, hb, hml, hown, hts⟩, hr, hlk⟩, hcn, hsn, hK, hJ, hNs⟩ := Γ
  intro H locs ls h1 h2 h3
  exact W.iret hx hb hr (fun t ht hW => ⟨⟨v, (), rfl, hv, by show va_P D cl (xw N a E) t.heap; rw [ht]; exact h1⟩, h2.F ht⟩) h2.2.2 hd hlk
theorem X_iretz {v r : Int32} (Γ : XC Y l R s m args cc nL own (some .boolean) cn sn (fun below => MQ below (xQi D cl N a r E') args s cn sn (xA N a)) D cl tys N a) (hd : decode cc pc = .ok (.ireturn, 1)) (hn : narrow .boolean (.int v) = .int v) (hv : v = r) (hE' : E = E') : X Y s m D cl N a nL E pc L [.int v] := by
  subst hE'
  obtain ⟨⟨p, e, below, meth, c, rfl, ⟨hx, hb, hml, hown, hts⟩, hr, hlk⟩, hcn, hsn, hK, hJ, hNs⟩ := Γ
  intro H locs ls h1 h2 h3
  exact W.zret hx hb hr hn (fun t ht hW => ⟨⟨v, (), rfl, hv, by show va_P D cl (xw N a E) t.heap; rw [ht]; exact h1⟩, h2.F ht⟩) h2.2.2 hd hlk
theorem X_vret (Γ : XC Y l R s m args cc nL own (none) cn sn (fun below => MQ below (xQv D cl N a E') args s cn sn (xA N a)) D cl tys N a) (hd : decode cc pc = .ok (.return_, 1)) (hE' : E = E') : X Y s m D cl N a nL E pc L [] := by
  subst hE'
  obtain ⟨⟨p, e, below, meth, c, rfl, ⟨hx, hb, hml, hown, hts⟩, hr, hlk⟩, hcn, hsn, hK, hJ, hNs⟩ := Γ
  intro H locs ls h1 h2 h3
  exact W.vret hx hb hr (fun t ht hW => ⟨⟨(), rfl, trivial, by show va_P D cl (xw N a E) t.heap; rw [ht]; exact h1⟩, h2.F ht⟩) h2.2.2 hd hlk
theorem X_aret {x r : Option Nat} {C : String} {v : Value} (Γ : XC Y l R s m args cc nL own (some (.object C)) cn sn (fun below => MQ below (xQq D cl N a r E') args s cn sn (xA N a)) D cl tys N a) (hd : decode cc pc = .ok (.areturn, 1)) (hx0 : v = va_rf x) (hv : x = r) (hE' : E = E') : X Y s m D cl N a nL E pc L [v] := by
  subst hE'
  subst hx0
  obtain ⟨⟨p, e, below, meth, c, rfl, ⟨hx, hb, hml, hown, hts⟩, hr, hlk⟩, hcn, hsn, hK, hJ, hNs⟩ := Γ
  intro H locs ls h1 h2 h3
  exact W.aret hx hb hr (Or.inl ⟨C, rfl⟩) (va_rf_or x) (fun t ht hW => ⟨⟨x, (), rfl, hv, by show va_P D cl (xw N a E) t.heap; rw [ht]; exact h1⟩, h2.F ht⟩) h2.2.2 hd hlk
theorem X_met {y : MethodName} {rm : Room} {Qc : Array Value → State → Outcome → State → Prop} {av : List Value} (hy : plainName y.cls = true) (ho : y.cls = own) (hlen : (lg_sl av).length ≤ nL) (hJ : xJ N a)
    (body : ∀ (Y : Heap → List Loc → JFrame → Prop) (s : State) (m : MethodId) (args : Array Value), XC Y l rm s m args cc nL own ret 0 0 (fun below => MQ below Qc args s 0 0 (xA N a)) D cl tys N a → X Y s m D cl N a nL E 0 (lv_args 0 av) []) : Met l y (Cond.code y cc nL ret :: wsBig) rm (xP D cl tys N a E av) Qc 0 0 (xA N a) := by
  subst ho
  refine Met.ofW (cc := cc) (maxL := nL) (ret := ret) hy rfl ?_
  intro p e s m args below meth c s₁ B hml hv
  obtain ⟨rfl, hP, hK, hNs⟩ := hv
  rw [lg_entry_eq]
  have hl := lv_entry av hlen
  exact body (fun H locs g => W p l e rm s m av.toArray below meth c H locs 0 0 (MQ below Qc av.toArray s 0 0 (xA N a)) g) s m av.toArray ⟨⟨p, e, below, meth, c, rfl, ⟨B.exec, B.bytes, hml, findClass_of_methodNamed B.named, fun w hw => atoms_spec (ws := Cond.code y cc nL ret :: wsBig) B.pre w (List.mem_cons_of_mem _ hw)⟩, B.returns, B.notSynchronized⟩, Nat.zero_le _, Nat.zero_le _, hK, hJ, hNs⟩ s.heap [] _ hP va_S.rf hl
theorem bigIn {y : MethodName} {bytes : ByteArray} {maxL : Nat} {rt : Option FieldType} (h : Cond.code y bytes maxL rt ∈ wsBig) : GoodIn wsBig (Cond.code y bytes maxL rt :: wsBig) := fun w hw => by
  rcases List.mem_cons.mp hw with rfl | h2
  · exact ⟨h, good_of_word (List.mem_filter.mp h).2⟩
  · exact ⟨h2, good_of_word (List.mem_filter.mp h2).2⟩
theorem X_callVi (Γ : XC Y l R s m args cc nL own ret cn sn QQ D cl tys N a) {y : MethodName} {bytes : ByteArray} {maxL n index : Nat} {rt : Option FieldType} {rm : Room} {As rest : List Value} {b ci : Nat} {q : vw_C} {fs : List Value} {C : String} {r : Int32} (hd : decode cc pc = .ok (.invokevirtual index, 3)) (hM : Met l y (Cond.code y bytes maxL rt :: wsBig) rm (xP D cl tys N a E (.ref (a b) :: As)) (xQi D cl N a r E') 0 0 (xA N a)) (hb0 : b < N) (hkb : E b = .inr (ci, fs)) (hcb : cl[ci]? = some q) (hCb : q.1 = C) (hl : Cond.methodLink own index y ∈ wsBig) (hi : Cond.instanceMethod y ∈ wsBig) (hs : Cond.selects C y y ∈ wsBig) (hini : Cond.initialized y.cls ∈ wsBig) (hco : Cond.code y bytes maxL rt ∈ wsBig) (hde : y.cls ≠ "java/lang/invoke/MethodHandle" ∧ y.cls ≠ "java/lang/invoke/VarHandle" ∧ (parseMethodDescriptor y.desc).map (fun d => d.parameters.length) = some n) (hR : rm.frames + 1 ≤ R.frames ∧ 8 + (maxL + 11) + rm.locals ≤ R.locals) (hz : rm.cells = 0 ∧ rm.slots = 0) (hn : As.length = n) (hst : (As.reverse ++ .ref (a b) :: rest) = st) (hrm : (rest.map fun v => v.category).sum ≤ 8) (hp : pc + 3 = pc') (kk : X Y s m D cl N a nL E' pc' L (.int r :: rest)) : X Y s m D cl N a nL E pc L st := by
  subst hst
  obtain ⟨⟨p, e, below, meth, c, rfl, ⟨hx, hb, hml, hown, hts⟩, hr, hlk⟩, hcn, hsn, hK, hJ, hNs⟩ := Γ
  subst hp
  intro H locs ls h1 h2 h3
  refine va_calli (va_runV (As := As) (rest := rest) ⟨hx, hb, hml, hown, hts⟩ hM ⟨callB_of n hts (bigIn hco) rfl hz.1 hz.2 (hts _ hini) (hts _ hl) hde hR, hts _ hi, hts _ hs⟩ ⟨fun a9 U g9 mk q9 => ⟨q9.1, q9.2.1, va_K.moved (u := U) (U := U.calling g9 mk a9) (Vm.Alike.refl U.vm) q9.2.2.1, xN.same (u := U) (U := U.calling g9 mk a9) rfl q9.2.2.2⟩, by rw [← hCb]; exact va_recv hK h1 hcb ((xw_at hb0).trans (congrArg (fun e9 => some (a b, e9)) hkb)), fun U hU hW => ⟨rfl, by rw [hU]; exact h1, va_K.moved hW.alike hK, xN.warm hW hNs⟩⟩ rfl hn h3.1 rfl (lv_room hrm) hd ⟨hcn, hsn⟩) h2 (fun q9 _ h9 => h9) (fun q9 h9 => h9) (fun r9 u t H1 locs1 ht hvm hpo hB hz9 hk hS => ?_)
  cases hpo
  replace hB : va_P D cl (xw N a E') t.heap := hB
  rw [ht] at hB
  exact kk H1 locs1 ls hB hS h3
theorem X_callVv (Γ : XC Y l R s m args cc nL own ret cn sn QQ D cl tys N a) {y : MethodName} {bytes : ByteArray} {maxL n index : Nat} {rt : Option FieldType} {rm : Room} {As rest : List Value} {b ci : Nat} {q : vw_C} {fs : List Value} {C : String}  (hd : decode cc pc = .ok (.invokevirtual index, 3)) (hM : Met l y (Cond.code y bytes maxL rt :: wsBig) rm (xP D cl tys N a E (.ref (a b) :: As)) (xQv D cl N a E') 0 0 (xA N a)) (hb0 : b < N) (hkb : E b = .inr (ci, fs)) (hcb : cl[ci]? = some q) (hCb : q.1 = C) (hl : Cond.methodLink own index y ∈ wsBig) (hi : Cond.instanceMethod y ∈ wsBig) (hs : Cond.selects C y y ∈ wsBig) (hini : Cond.initialized y.cls ∈ wsBig) (hco : Cond.code y bytes maxL rt ∈ wsBig) (hde : y.cls ≠ "java/lang/invoke/MethodHandle" ∧ y.cls ≠ "java/lang/invoke/VarHandle" ∧ (parseMethodDescriptor y.desc).map (fun d => d.parameters.length) = some n) (hR : rm.frames + 1 ≤ R.frames ∧ 8 + (maxL + 11) + rm.locals ≤ R.locals) (hz : rm.cells = 0 ∧ rm.slots = 0) (hn : As.length = n) (hst : (As.reverse ++ .ref (a b) :: rest) = st) (hrm : (rest.map fun v => v.category).sum ≤ 8) (hp : pc + 3 = pc') (kk : X Y s m D cl N a nL E' pc' L rest) : X Y s m D cl N a nL E pc L st := by
  subst hst
  obtain ⟨⟨p, e, below, meth, c, rfl, ⟨hx, hb, hml, hown, hts⟩, hr, hlk⟩, hcn, hsn, hK, hJ, hNs⟩ := Γ
  subst hp
  intro H locs ls h1 h2 h3
  refine va_callv (va_runV (As := As) (rest := rest) ⟨hx, hb, hml, hown, hts⟩ hM ⟨callB_of n hts (bigIn hco) rfl hz.1 hz.2 (hts _ hini) (hts _ hl) hde hR, hts _ hi, hts _ hs⟩ ⟨fun a9 U g9 mk q9 => ⟨q9.1, q9.2.1, va_K.moved (u := U) (U := U.calling g9 mk a9) (Vm.Alike.refl U.vm) q9.2.2.1, xN.same (u := U) (U := U.calling g9 mk a9) rfl q9.2.2.2⟩, by rw [← hCb]; exact va_recv hK h1 hcb ((xw_at hb0).trans (congrArg (fun e9 => some (a b, e9)) hkb)), fun U hU hW => ⟨rfl, by rw [hU]; exact h1, va_K.moved hW.alike hK, xN.warm hW hNs⟩⟩ rfl hn h3.1 rfl (lv_room hrm) hd ⟨hcn, hsn⟩) h2 (fun q9 _ h9 => h9) (fun q9 h9 => h9) (fun u t H1 locs1 ht hvm hpo hB hz9 hk hS => ?_)
  replace hB : va_P D cl (xw N a E') t.heap := hB
  rw [ht] at hB
  exact kk H1 locs1 ls hB hS h3
theorem X_callVq (Γ : XC Y l R s m args cc nL own ret cn sn QQ D cl tys N a) {y : MethodName} {bytes : ByteArray} {maxL n index : Nat} {rt : Option FieldType} {rm : Room} {As rest : List Value} {b ci : Nat} {q : vw_C} {fs : List Value} {C : String} {r : Option Nat} (hd : decode cc pc = .ok (.invokevirtual index, 3)) (hM : Met l y (Cond.code y bytes maxL rt :: wsBig) rm (xP D cl tys N a E (.ref (a b) :: As)) (xQq D cl N a r E') 0 0 (xA N a)) (hb0 : b < N) (hkb : E b = .inr (ci, fs)) (hcb : cl[ci]? = some q) (hCb : q.1 = C) (hl : Cond.methodLink own index y ∈ wsBig) (hi : Cond.instanceMethod y ∈ wsBig) (hs : Cond.selects C y y ∈ wsBig) (hini : Cond.initialized y.cls ∈ wsBig) (hco : Cond.code y bytes maxL rt ∈ wsBig) (hde : y.cls ≠ "java/lang/invoke/MethodHandle" ∧ y.cls ≠ "java/lang/invoke/VarHandle" ∧ (parseMethodDescriptor y.desc).map (fun d => d.parameters.length) = some n) (hR : rm.frames + 1 ≤ R.frames ∧ 8 + (maxL + 11) + rm.locals ≤ R.locals) (hz : rm.cells = 0 ∧ rm.slots = 0) (hn : As.length = n) (hst : (As.reverse ++ .ref (a b) :: rest) = st) (hrm : (rest.map fun v => v.category).sum ≤ 8) (hp : pc + 3 = pc') (kk : X Y s m D cl N a nL E' pc' L (va_rf r :: rest)) : X Y s m D cl N a nL E pc L st := by
  subst hst
  obtain ⟨⟨p, e, below, meth, c, rfl, ⟨hx, hb, hml, hown, hts⟩, hr, hlk⟩, hcn, hsn, hK, hJ, hNs⟩ := Γ
  subst hp
  intro H locs ls h1 h2 h3
  refine va_callq (va_runV (As := As) (rest := rest) ⟨hx, hb, hml, hown, hts⟩ hM ⟨callB_of n hts (bigIn hco) rfl hz.1 hz.2 (hts _ hini) (hts _ hl) hde hR, hts _ hi, hts _ hs⟩ ⟨fun a9 U g9 mk q9 => ⟨q9.1, q9.2.1, va_K.moved (u := U) (U := U.calling g9 mk a9) (Vm.Alike.refl U.vm) q9.2.2.1, xN.same (u := U) (U := U.calling g9 mk a9) rfl q9.2.2.2⟩, by rw [← hCb]; exact va_recv hK h1 hcb ((xw_at hb0).trans (congrArg (fun e9 => some (a b, e9)) hkb)), fun U hU hW => ⟨rfl, by rw [hU]; exact h1, va_K.moved hW.alike hK, xN.warm hW hNs⟩⟩ rfl hn h3.1 rfl (lv_room hrm) hd ⟨hcn, hsn⟩) h2 (fun q9 _ h9 => h9) (fun q9 h9 => h9) (fun r9 u t H1 locs1 ht hvm hpo hB hz9 hk hS => ?_)
  cases hpo
  replace hB : va_P D cl (xw N a E') t.heap := hB
  rw [ht] at hB
  exact kk H1 locs1 ls hB hS h3
theorem X_callVNi (Γ : XC Y l R s m args cc nL own ret cn sn QQ D cl tys N a) {y : MethodName} {bytes : ByteArray} {maxL n index : Nat} {rt : Option FieldType} {rm : Room} {As rest : List Value} {b ci : Nat} {q : vw_C} {fs : List Value} {C host : String} {r : Int32} (hd : decode cc pc = .ok (.invokevirtual index, 3)) (hM : Met l y (Cond.code y bytes maxL rt :: wsBig) rm (xP D cl tys N a E (.ref (a b) :: As)) (xQi D cl N a r E') 0 0 (xA N a)) (hb0 : b < N) (hkb : E b = .inr (ci, fs)) (hcb : cl[ci]? = some q) (hCb : q.1 = C) (hl : Cond.methodLinkNest own index y host ∈ xnl) (hi : Cond.instanceMethod y ∈ wsBig) (hs : Cond.selects C y y ∈ wsBig) (hini : Cond.initialized y.cls ∈ wsBig) (hco : Cond.code y bytes maxL rt ∈ wsBig) (hde : y.cls ≠ "java/lang/invoke/MethodHandle" ∧ y.cls ≠ "java/lang/invoke/VarHandle" ∧ (parseMethodDescriptor y.desc).map (fun d => d.parameters.length) = some n) (hR : rm.frames + 1 ≤ R.frames ∧ 8 + (maxL + 11) + rm.locals ≤ R.locals) (hz : rm.cells = 0 ∧ rm.slots = 0) (hn : As.length = n) (hst : (As.reverse ++ .ref (a b) :: rest) = st) (hrm : (rest.map fun v => v.category).sum ≤ 8) (hp : pc + 3 = pc') (kk : X Y s m D cl N a nL E' pc' L (.int r :: rest)) : X Y s m D cl N a nL E pc L st := by
  subst hst
  obtain ⟨⟨p, e, below, meth, c, rfl, ⟨hx, hb, hml, hown, hts⟩, hr, hlk⟩, hcn, hsn, hK, hJ, hNs⟩ := Γ
  subst hp
  intro H locs ls h1 h2 h3
  refine va_calli (va_runVN (As := As) (rest := rest) ⟨hx, hb, hml, hown, hts⟩ hM ⟨va_cnB n hts (bigIn hco) rfl hz.1 hz.2 (hNs _ hl) (hts _ hini) hde hR, hts _ hi, hts _ hs⟩ ⟨fun a9 U g9 mk q9 => ⟨q9.1, q9.2.1, va_K.moved (u := U) (U := U.calling g9 mk a9) (Vm.Alike.refl U.vm) q9.2.2.1, xN.same (u := U) (U := U.calling g9 mk a9) rfl q9.2.2.2⟩, by rw [← hCb]; exact va_recv hK h1 hcb ((xw_at hb0).trans (congrArg (fun e9 => some (a b, e9)) hkb)), fun U hU hW => ⟨rfl, by rw [hU]; exact h1, va_K.moved hW.alike hK, xN.warm hW hNs⟩⟩ rfl hn h3.1 rfl (lv_room hrm) hd ⟨hcn, hsn⟩) h2 (fun q9 _ h9 => h9) (fun q9 h9 => h9) (fun r9 u t H1 locs1 ht hvm hpo hB hz9 hk hS => ?_)
  cases hpo
  replace hB : va_P D cl (xw N a E') t.heap := hB
  rw [ht] at hB
  exact kk H1 locs1 ls hB hS h3
theorem X_callVNv (Γ : XC Y l R s m args cc nL own ret cn sn QQ D cl tys N a) {y : MethodName} {bytes : ByteArray} {maxL n index : Nat} {rt : Option FieldType} {rm : Room} {As rest : List Value} {b ci : Nat} {q : vw_C} {fs : List Value} {C host : String}  (hd : decode cc pc = .ok (.invokevirtual index, 3)) (hM : Met l y (Cond.code y bytes maxL rt :: wsBig) rm (xP D cl tys N a E (.ref (a b) :: As)) (xQv D cl N a E') 0 0 (xA N a)) (hb0 : b < N) (hkb : E b = .inr (ci, fs)) (hcb : cl[ci]? = some q) (hCb : q.1 = C) (hl : Cond.methodLinkNest own index y host ∈ xnl) (hi : Cond.instanceMethod y ∈ wsBig) (hs : Cond.selects C y y ∈ wsBig) (hini : Cond.initialized y.cls ∈ wsBig) (hco : Cond.code y bytes maxL rt ∈ wsBig) (hde : y.cls ≠ "java/lang/invoke/MethodHandle" ∧ y.cls ≠ "java/lang/invoke/VarHandle" ∧ (parseMethodDescriptor y.desc).map (fun d => d.parameters.length) = some n) (hR : rm.frames + 1 ≤ R.frames ∧ 8 + (maxL + 11) + rm.locals ≤ R.locals) (hz : rm.cells = 0 ∧ rm.slots = 0) (hn : As.length = n) (hst : (As.reverse ++ .ref (a b) :: rest) = st) (hrm : (rest.map fun v => v.category).sum ≤ 8) (hp : pc + 3 = pc') (kk : X Y s m D cl N a nL E' pc' L rest) : X Y s m D cl N a nL E pc L st := by
  subst hst
  obtain ⟨⟨p, e, below, meth, c, rfl, ⟨hx, hb, hml, hown, hts⟩, hr, hlk⟩, hcn, hsn, hK, hJ, hNs⟩ := Γ
  subst hp
  intro H locs ls h1 h2 h3
  refine va_callv (va_runVN (As := As) (rest := rest) ⟨hx, hb, hml, hown, hts⟩ hM ⟨va_cnB n hts (bigIn hco) rfl hz.1 hz.2 (hNs _ hl) (hts _ hini) hde hR, hts _ hi, hts _ hs⟩ ⟨fun a9 U g9 mk q9 => ⟨q9.1, q9.2.1, va_K.moved (u := U) (U := U.calling g9 mk a9) (Vm.Alike.refl U.vm) q9.2.2.1, xN.same (u := U) (U := U.calling g9 mk a9) rfl q9.2.2.2⟩, by rw [← hCb]; exact va_recv hK h1 hcb ((xw_at hb0).trans (congrArg (fun e9 => some (a b, e9)) hkb)), fun U hU hW => ⟨rfl, by rw [hU]; exact h1, va_K.moved hW.alike hK, xN.warm hW hNs⟩⟩ rfl hn h3.1 rfl (lv_room hrm) hd ⟨hcn, hsn⟩) h2 (fun q9 _ h9 => h9) (fun q9 h9 => h9) (fun u t H1 locs1 ht hvm hpo hB hz9 hk hS => ?_)
  replace hB : va_P D cl (xw N a E') t.heap := hB
  rw [ht] at hB
  exact kk H1 locs1 ls hB hS h3
theorem X_callVNq (Γ : XC Y l R s m args cc nL own ret cn sn QQ D cl tys N a) {y : MethodName} {bytes : ByteArray} {maxL n index : Nat} {rt : Option FieldType} {rm : Room} {As rest : List Value} {b ci : Nat} {q : vw_C} {fs : List Value} {C host : String} {r : Option Nat} (hd : decode cc pc = .ok (.invokevirtual index, 3)) (hM : Met l y (Cond.code y bytes maxL rt :: wsBig) rm (xP D cl tys N a E (.ref (a b) :: As)) (xQq D cl N a r E') 0 0 (xA N a)) (hb0 : b < N) (hkb : E b = .inr (ci, fs)) (hcb : cl[ci]? = some q) (hCb : q.1 = C) (hl : Cond.methodLinkNest own index y host ∈ xnl) (hi : Cond.instanceMethod y ∈ wsBig) (hs : Cond.selects C y y ∈ wsBig) (hini : Cond.initialized y.cls ∈ wsBig) (hco : Cond.code y bytes maxL rt ∈ wsBig) (hde : y.cls ≠ "java/lang/invoke/MethodHandle" ∧ y.cls ≠ "java/lang/invoke/VarHandle" ∧ (parseMethodDescriptor y.desc).map (fun d => d.parameters.length) = some n) (hR : rm.frames + 1 ≤ R.frames ∧ 8 + (maxL + 11) + rm.locals ≤ R.locals) (hz : rm.cells = 0 ∧ rm.slots = 0) (hn : As.length = n) (hst : (As.reverse ++ .ref (a b) :: rest) = st) (hrm : (rest.map fun v => v.category).sum ≤ 8) (hp : pc + 3 = pc') (kk : X Y s m D cl N a nL E' pc' L (va_rf r :: rest)) : X Y s m D cl N a nL E pc L st := by
  subst hst
  obtain ⟨⟨p, e, below, meth, c, rfl, ⟨hx, hb, hml, hown, hts⟩, hr, hlk⟩, hcn, hsn, hK, hJ, hNs⟩ := Γ
  subst hp
  intro H locs ls h1 h2 h3
  refine va_callq (va_runVN (As := As) (rest := rest) ⟨hx, hb, hml, hown, hts⟩ hM ⟨va_cnB n hts (bigIn hco) rfl hz.1 hz.2 (hNs _ hl) (hts _ hini) hde hR, hts _ hi, hts _ hs⟩ ⟨fun a9 U g9 mk q9 => ⟨q9.1, q9.2.1, va_K.moved (u := U) (U := U.calling g9 mk a9) (Vm.Alike.refl U.vm) q9.2.2.1, xN.same (u := U) (U := U.calling g9 mk a9) rfl q9.2.2.2⟩, by rw [← hCb]; exact va_recv hK h1 hcb ((xw_at hb0).trans (congrArg (fun e9 => some (a b, e9)) hkb)), fun U hU hW => ⟨rfl, by rw [hU]; exact h1, va_K.moved hW.alike hK, xN.warm hW hNs⟩⟩ rfl hn h3.1 rfl (lv_room hrm) hd ⟨hcn, hsn⟩) h2 (fun q9 _ h9 => h9) (fun q9 h9 => h9) (fun r9 u t H1 locs1 ht hvm hpo hB hz9 hk hS => ?_)
  cases hpo
  replace hB : va_P D cl (xw N a E') t.heap := hB
  rw [ht] at hB
  exact kk H1 locs1 ls hB hS h3
theorem X_callSi (Γ : XC Y l R s m args cc nL own ret cn sn QQ D cl tys N a) {y : MethodName} {bytes : ByteArray} {maxL n index : Nat} {rt : Option FieldType} {rm : Room} {As rest : List Value}  {r : Int32} (hd : decode cc pc = .ok (.invokestatic index, 3)) (hM : Met l y (Cond.code y bytes maxL rt :: wsBig) rm (xP D cl tys N a E As) (xQi D cl N a r E') 0 0 (xA N a))  (hl : Cond.methodLink own index y ∈ wsBig) (hs : Cond.static y ∈ wsBig) (hini : Cond.initialized y.cls ∈ wsBig) (hco : Cond.code y bytes maxL rt ∈ wsBig) (hde : y.cls ≠ "java/lang/invoke/MethodHandle" ∧ y.cls ≠ "java/lang/invoke/VarHandle" ∧ (parseMethodDescriptor y.desc).map (fun d => d.parameters.length) = some n) (hR : rm.frames + 1 ≤ R.frames ∧ 8 + (maxL + 11) + rm.locals ≤ R.locals) (hz : rm.cells = 0 ∧ rm.slots = 0) (hn : As.length = n) (hst : (As.reverse ++ rest) = st) (hrm : (rest.map fun v => v.category).sum ≤ 8) (hp : pc + 3 = pc') (kk : X Y s m D cl N a nL E' pc' L (.int r :: rest)) : X Y s m D cl N a nL E pc L st := by
  subst hst
  obtain ⟨⟨p, e, below, meth, c, rfl, ⟨hx, hb, hml, hown, hts⟩, hr, hlk⟩, hcn, hsn, hK, hJ, hNs⟩ := Γ
  subst hp
  intro H locs ls h1 h2 h3
  refine va_calli (va_runS (As := As) (rest := rest) ⟨hx, hb, hml, hown, hts⟩ hM ⟨callB_of n hts (bigIn hco) rfl hz.1 hz.2 (hts _ hini) (hts _ hl) hde hR, hts _ hs⟩ ⟨fun a9 U g9 mk q9 => ⟨q9.1, q9.2.1, va_K.moved (u := U) (U := U.calling g9 mk a9) (Vm.Alike.refl U.vm) q9.2.2.1, xN.same (u := U) (U := U.calling g9 mk a9) rfl q9.2.2.2⟩, fun U hU hW => ⟨rfl, by rw [hU]; exact h1, va_K.moved hW.alike hK, xN.warm hW hNs⟩⟩ rfl hn h3.1 rfl (lv_room hrm) hd ⟨hcn, hsn⟩) h2 (fun q9 _ h9 => h9) (fun q9 h9 => h9) (fun r9 u t H1 locs1 ht hvm hpo hB hz9 hk hS => ?_)
  cases hpo
  replace hB : va_P D cl (xw N a E') t.heap := hB
  rw [ht] at hB
  exact kk H1 locs1 ls hB hS h3
theorem X_callSv (Γ : XC Y l R s m args cc nL own ret cn sn QQ D cl tys N a) {y : MethodName} {bytes : ByteArray} {maxL n index : Nat} {rt : Option FieldType} {rm : Room} {As rest : List Value}   (hd : decode cc pc = .ok (.invokestatic index, 3)) (hM : Met l y (Cond.code y bytes maxL rt :: wsBig) rm (xP D cl tys N a E As) (xQv D cl N a E') 0 0 (xA N a))  (hl : Cond.methodLink own index y ∈ wsBig) (hs : Cond.static y ∈ wsBig) (hini : Cond.initialized y.cls ∈ wsBig) (hco : Cond.code y bytes maxL rt ∈ wsBig) (hde : y.cls ≠ "java/lang/invoke/MethodHandle" ∧ y.cls ≠ "java/lang/invoke/VarHandle" ∧ (parseMethodDescriptor y.desc).map (fun d => d.parameters.length) = some n) (hR : rm.frames + 1 ≤ R.frames ∧ 8 + (maxL + 11) + rm.locals ≤ R.locals) (hz : rm.cells = 0 ∧ rm.slots = 0) (hn : As.length = n) (hst : (As.reverse ++ rest) = st) (hrm : (rest.map fun v => v.category).sum ≤ 8) (hp : pc + 3 = pc') (kk : X Y s m D cl N a nL E' pc' L rest) : X Y s m D cl N a nL E pc L st := by
  subst hst
  obtain ⟨⟨p, e, below, meth, c, rfl, ⟨hx, hb, hml, hown, hts⟩, hr, hlk⟩, hcn, hsn, hK, hJ, hNs⟩ := Γ
  subst hp
  intro H locs ls h1 h2 h3
  refine va_callv (va_runS (As := As) (rest := rest) ⟨hx, hb, hml, hown, hts⟩ hM ⟨callB_of n hts (bigIn hco) rfl hz.1 hz.2 (hts _ hini) (hts _ hl) hde hR, hts _ hs⟩ ⟨fun a9 U g9 mk q9 => ⟨q9.1, q9.2.1, va_K.moved (u := U) (U := U.calling g9 mk a9) (Vm.Alike.refl U.vm) q9.2.2.1, xN.same (u := U) (U := U.calling g9 mk a9) rfl q9.2.2.2⟩, fun U hU hW => ⟨rfl, by rw [hU]; exact h1, va_K.moved hW.alike hK, xN.warm hW hNs⟩⟩ rfl hn h3.1 rfl (lv_room hrm) hd ⟨hcn, hsn⟩) h2 (fun q9 _ h9 => h9) (fun q9 h9 => h9) (fun u t H1 locs1 ht hvm hpo hB hz9 hk hS => ?_)
  replace hB : va_P D cl (xw N a E') t.heap := hB
  rw [ht] at hB
  exact kk H1 locs1 ls hB hS h3
theorem X_callSq (Γ : XC Y l R s m args cc nL own ret cn sn QQ D cl tys N a) {y : MethodName} {bytes : ByteArray} {maxL n index : Nat} {rt : Option FieldType} {rm : Room} {As rest : List Value}  {r : Option Nat} (hd : decode cc pc = .ok (.invokestatic index, 3)) (hM : Met l y (Cond.code y bytes maxL rt :: wsBig) rm (xP D cl tys N a E As) (xQq D cl N a r E') 0 0 (xA N a))  (hl : Cond.methodLink own index y ∈ wsBig) (hs : Cond.static y ∈ wsBig) (hini : Cond.initialized y.cls ∈ wsBig) (hco : Cond.code y bytes maxL rt ∈ wsBig) (hde : y.cls ≠ "java/lang/invoke/MethodHandle" ∧ y.cls ≠ "java/lang/invoke/VarHandle" ∧ (parseMethodDescriptor y.desc).map (fun d => d.parameters.length) = some n) (hR : rm.frames + 1 ≤ R.frames ∧ 8 + (maxL + 11) + rm.locals ≤ R.locals) (hz : rm.cells = 0 ∧ rm.slots = 0) (hn : As.length = n) (hst : (As.reverse ++ rest) = st) (hrm : (rest.map fun v => v.category).sum ≤ 8) (hp : pc + 3 = pc') (kk : X Y s m D cl N a nL E' pc' L (va_rf r :: rest)) : X Y s m D cl N a nL E pc L st := by
  subst hst
  obtain ⟨⟨p, e, below, meth, c, rfl, ⟨hx, hb, hml, hown, hts⟩, hr, hlk⟩, hcn, hsn, hK, hJ, hNs⟩ := Γ
  subst hp
  intro H locs ls h1 h2 h3
  refine va_callq (va_runS (As := As) (rest := rest) ⟨hx, hb, hml, hown, hts⟩ hM ⟨callB_of n hts (bigIn hco) rfl hz.1 hz.2 (hts _ hini) (hts _ hl) hde hR, hts _ hs⟩ ⟨fun a9 U g9 mk q9 => ⟨q9.1, q9.2.1, va_K.moved (u := U) (U := U.calling g9 mk a9) (Vm.Alike.refl U.vm) q9.2.2.1, xN.same (u := U) (U := U.calling g9 mk a9) rfl q9.2.2.2⟩, fun U hU hW => ⟨rfl, by rw [hU]; exact h1, va_K.moved hW.alike hK, xN.warm hW hNs⟩⟩ rfl hn h3.1 rfl (lv_room hrm) hd ⟨hcn, hsn⟩) h2 (fun q9 _ h9 => h9) (fun q9 h9 => h9) (fun r9 u t H1 locs1 ht hvm hpo hB hz9 hk hS => ?_)
  cases hpo
  replace hB : va_P D cl (xw N a E') t.heap := hB
  rw [ht] at hB
  exact kk H1 locs1 ls hB hS h3
theorem X_callSNi (Γ : XC Y l R s m args cc nL own ret cn sn QQ D cl tys N a) {y : MethodName} {bytes : ByteArray} {maxL n index : Nat} {rt : Option FieldType} {rm : Room} {As rest : List Value} {host : String} {r : Int32} (hd : decode cc pc = .ok (.invokestatic index, 3)) (hM : Met l y (Cond.code y bytes maxL rt :: wsBig) rm (xP D cl tys N a E As) (xQi D cl N a r E') 0 0 (xA N a))  (hl : Cond.methodLinkNest own index y host ∈ xnl) (hs : Cond.static y ∈ wsBig) (hini : Cond.initialized y.cls ∈ wsBig) (hco : Cond.code y bytes maxL rt ∈ wsBig) (hde : y.cls ≠ "java/lang/invoke/MethodHandle" ∧ y.cls ≠ "java/lang/invoke/VarHandle" ∧ (parseMethodDescriptor y.desc).map (fun d => d.parameters.length) = some n) (hR : rm.frames + 1 ≤ R.frames ∧ 8 + (maxL + 11) + rm.locals ≤ R.locals) (hz : rm.cells = 0 ∧ rm.slots = 0) (hn : As.length = n) (hst : (As.reverse ++ rest) = st) (hrm : (rest.map fun v => v.category).sum ≤ 8) (hp : pc + 3 = pc') (kk : X Y s m D cl N a nL E' pc' L (.int r :: rest)) : X Y s m D cl N a nL E pc L st := by
  subst hst
  obtain ⟨⟨p, e, below, meth, c, rfl, ⟨hx, hb, hml, hown, hts⟩, hr, hlk⟩, hcn, hsn, hK, hJ, hNs⟩ := Γ
  subst hp
  intro H locs ls h1 h2 h3
  refine va_calli (va_runSN (As := As) (rest := rest) ⟨hx, hb, hml, hown, hts⟩ hM ⟨va_cnB n hts (bigIn hco) rfl hz.1 hz.2 (hNs _ hl) (hts _ hini) hde hR, hts _ hs, trivial⟩ ⟨fun a9 U g9 mk q9 => ⟨q9.1, q9.2.1, va_K.moved (u := U) (U := U.calling g9 mk a9) (Vm.Alike.refl U.vm) q9.2.2.1, xN.same (u := U) (U := U.calling g9 mk a9) rfl q9.2.2.2⟩, fun U hU hW => ⟨rfl, by rw [hU]; exact h1, va_K.moved hW.alike hK, xN.warm hW hNs⟩⟩ rfl hn h3.1 rfl (lv_room hrm) hd ⟨hcn, hsn⟩) h2 (fun q9 _ h9 => h9) (fun q9 h9 => h9) (fun r9 u t H1 locs1 ht hvm hpo hB hz9 hk hS => ?_)
  cases hpo
  replace hB : va_P D cl (xw N a E') t.heap := hB
  rw [ht] at hB
  exact kk H1 locs1 ls hB hS h3
theorem X_callSNv (Γ : XC Y l R s m args cc nL own ret cn sn QQ D cl tys N a) {y : MethodName} {bytes : ByteArray} {maxL n index : Nat} {rt : Option FieldType} {rm : Room} {As rest : List Value} {host : String}  (hd : decode cc pc = .ok (.invokestatic index, 3)) (hM : Met l y (Cond.code y bytes maxL rt :: wsBig) rm (xP D cl tys N a E As) (xQv D cl N a E') 0 0 (xA N a))  (hl : Cond.methodLinkNest own index y host ∈ xnl) (hs : Cond.static y ∈ wsBig) (hini : Cond.initialized y.cls ∈ wsBig) (hco : Cond.code y bytes maxL rt ∈ wsBig) (hde : y.cls ≠ "java/lang/invoke/MethodHandle" ∧ y.cls ≠ "java/lang/invoke/VarHandle" ∧ (parseMethodDescriptor y.desc).map (fun d => d.parameters.length) = some n) (hR : rm.frames + 1 ≤ R.frames ∧ 8 + (maxL + 11) + rm.locals ≤ R.locals) (hz : rm.cells = 0 ∧ rm.slots = 0) (hn : As.length = n) (hst : (As.reverse ++ rest) = st) (hrm : (rest.map fun v => v.category).sum ≤ 8) (hp : pc + 3 = pc') (kk : X Y s m D cl N a nL E' pc' L rest) : X Y s m D cl N a nL E pc L st := by
  subst hst
  obtain ⟨⟨p, e, below, meth, c, rfl, ⟨hx, hb, hml, hown, hts⟩, hr, hlk⟩, hcn, hsn, hK, hJ, hNs⟩ := Γ
  subst hp
  intro H locs ls h1 h2 h3
  refine va_callv (va_runSN (As := As) (rest := rest) ⟨hx, hb, hml, hown, hts⟩ hM ⟨va_cnB n hts (bigIn hco) rfl hz.1 hz.2 (hNs _ hl) (hts _ hini) hde hR, hts _ hs, trivial⟩ ⟨fun a9 U g9 mk q9 => ⟨q9.1, q9.2.1, va_K.moved (u := U) (U := U.calling g9 mk a9) (Vm.Alike.refl U.vm) q9.2.2.1, xN.same (u := U) (U := U.calling g9 mk a9) rfl q9.2.2.2⟩, fun U hU hW => ⟨rfl, by rw [hU]; exact h1, va_K.moved hW.alike hK, xN.warm hW hNs⟩⟩ rfl hn h3.1 rfl (lv_room hrm) hd ⟨hcn, hsn⟩) h2 (fun q9 _ h9 => h9) (fun q9 h9 => h9) (fun u t H1 locs1 ht hvm hpo hB hz9 hk hS => ?_)
  replace hB : va_P D cl (xw N a E') t.heap := hB
  rw [ht] at hB
  exact kk H1 locs1 ls hB hS h3
theorem X_callSNq (Γ : XC Y l R s m args cc nL own ret cn sn QQ D cl tys N a) {y : MethodName} {bytes : ByteArray} {maxL n index : Nat} {rt : Option FieldType} {rm : Room} {As rest : List Value} {host : String} {r : Option Nat} (hd : decode cc pc = .ok (.invokestatic index, 3)) (hM : Met l y (Cond.code y bytes maxL rt :: wsBig) rm (xP D cl tys N a E As) (xQq D cl N a r E') 0 0 (xA N a))  (hl : Cond.methodLinkNest own index y host ∈ xnl) (hs : Cond.static y ∈ wsBig) (hini : Cond.initialized y.cls ∈ wsBig) (hco : Cond.code y bytes maxL rt ∈ wsBig) (hde : y.cls ≠ "java/lang/invoke/MethodHandle" ∧ y.cls ≠ "java/lang/invoke/VarHandle" ∧ (parseMethodDescriptor y.desc).map (fun d => d.parameters.length) = some n) (hR : rm.frames + 1 ≤ R.frames ∧ 8 + (maxL + 11) + rm.locals ≤ R.locals) (hz : rm.cells = 0 ∧ rm.slots = 0) (hn : As.length = n) (hst : (As.reverse ++ rest) = st) (hrm : (rest.map fun v => v.category).sum ≤ 8) (hp : pc + 3 = pc') (kk : X Y s m D cl N a nL E' pc' L (va_rf r :: rest)) : X Y s m D cl N a nL E pc L st := by
  subst hst
  obtain ⟨⟨p, e, below, meth, c, rfl, ⟨hx, hb, hml, hown, hts⟩, hr, hlk⟩, hcn, hsn, hK, hJ, hNs⟩ := Γ
  subst hp
  intro H locs ls h1 h2 h3
  refine va_callq (va_runSN (As := As) (rest := rest) ⟨hx, hb, hml, hown, hts⟩ hM ⟨va_cnB n hts (bigIn hco) rfl hz.1 hz.2 (hNs _ hl) (hts _ hini) hde hR, hts _ hs, trivial⟩ ⟨fun a9 U g9 mk q9 => ⟨q9.1, q9.2.1, va_K.moved (u := U) (U := U.calling g9 mk a9) (Vm.Alike.refl U.vm) q9.2.2.1, xN.same (u := U) (U := U.calling g9 mk a9) rfl q9.2.2.2⟩, fun U hU hW => ⟨rfl, by rw [hU]; exact h1, va_K.moved hW.alike hK, xN.warm hW hNs⟩⟩ rfl hn h3.1 rfl (lv_room hrm) hd ⟨hcn, hsn⟩) h2 (fun q9 _ h9 => h9) (fun q9 h9 => h9) (fun r9 u t H1 locs1 ht hvm hpo hB hz9 hk hS => ?_)
  cases hpo
  replace hB : va_P D cl (xw N a E') t.heap := hB
  rw [ht] at hB
  exact kk H1 locs1 ls hB hS h3
theorem X_mmax (Γ : XC Y l R s m args cc nL own ret cn sn QQ D cl tys N a) {x y : Int32} {index : Nat} (hd : decode cc pc = .ok (.invokestatic index, 3)) (hlink : (Cond.methodLink own index Lib.Math.max.name) ∈ wsBig) (hstat : (Cond.static Lib.Math.max.name) ∈ wsBig) (hini : (Cond.initialized "java/lang/Math") ∈ wsBig) (hcode : (Cond.code Lib.Math.max.name Lib.Math.max.code 2 (some .int)) ∈ wsBig) (hfr : 1 ≤ R.frames) (hlo : (st.map fun v => v.category).sum + 13 ≤ R.locals) (hp : pc + 3 = pc') (kk : X Y s m D cl N a nL E pc' L (.int (if x < y then y else x) :: st)) : X Y s m D cl N a nL E pc L (.int y :: .int x :: st) := by
  obtain ⟨⟨p, e, below, meth, c, rfl, ⟨hx, hb, hml, hown, hts⟩, hr, hlk⟩, hcn, hsn, hK, hJ, hNs⟩ := Γ
  subst hp
  intro H locs ls h1 h2 h3
  exact va_mmax hx hb (hml.trans h3.1.symm) hown (hts _ hlink) (hts _ hstat) (hts _ hini) (hts _ hcode) hfr hlo hcn hsn hd (kk H locs ls h1 h2 h3)
theorem X_mmin (Γ : XC Y l R s m args cc nL own ret cn sn QQ D cl tys N a) {x y : Int32} {index : Nat} (hd : decode cc pc = .ok (.invokestatic index, 3)) (hlink : (Cond.methodLink own index Lib.Math.min.name) ∈ wsBig) (hstat : (Cond.static Lib.Math.min.name) ∈ wsBig) (hini : (Cond.initialized "java/lang/Math") ∈ wsBig) (hcode : (Cond.code Lib.Math.min.name Lib.Math.min.code 2 (some .int)) ∈ wsBig) (hfr : 1 ≤ R.frames) (hlo : (st.map fun v => v.category).sum + 13 ≤ R.locals) (hp : pc + 3 = pc') (kk : X Y s m D cl N a nL E pc' L (.int (if y < x then y else x) :: st)) : X Y s m D cl N a nL E pc L (.int y :: .int x :: st) := by
  obtain ⟨⟨p, e, below, meth, c, rfl, ⟨hx, hb, hml, hown, hts⟩, hr, hlk⟩, hcn, hsn, hK, hJ, hNs⟩ := Γ
  subst hp
  intro H locs ls h1 h2 h3
  exact va_mmin hx hb (hml.trans h3.1.symm) hown (hts _ hlink) (hts _ hstat) (hts _ hini) (hts _ hcode) hfr hlo hcn hsn hd (kk H locs ls h1 h2 h3)
theorem X_mabs (Γ : XC Y l R s m args cc nL own ret cn sn QQ D cl tys N a) {x : Int32} {index : Nat} (hd : decode cc pc = .ok (.invokestatic index, 3)) (hlink : (Cond.methodLink own index Lib.Math.abs.name) ∈ wsBig) (hstat : (Cond.static Lib.Math.abs.name) ∈ wsBig) (hini : (Cond.initialized "java/lang/Math") ∈ wsBig) (hcode : (Cond.code Lib.Math.abs.name Lib.Math.abs.code 1 (some .int)) ∈ wsBig) (hfr : 1 ≤ R.frames) (hlo : (st.map fun v => v.category).sum + 13 ≤ R.locals) (hp : pc + 3 = pc') (kk : X Y s m D cl N a nL E pc' L (.int (if 0 ≤ x then x else 0 - x) :: st)) : X Y s m D cl N a nL E pc L (.int x :: st) := by
  obtain ⟨⟨p, e, below, meth, c, rfl, ⟨hx, hb, hml, hown, hts⟩, hr, hlk⟩, hcn, hsn, hK, hJ, hNs⟩ := Γ
  subst hp
  intro H locs ls h1 h2 h3
  exact va_mabs hx hb (hml.trans h3.1.symm) hown (hts _ hlink) (hts _ hstat) (hts _ hini) (hts _ hcode) hfr hlo hcn hsn hd (kk H locs ls h1 h2 h3)
theorem X_name {α : Type} {x : α} {F : α → Prop} (kk : ∀ y, y = x → F y) : F x := kk x rfl
def jn {α β : Type} (t : α) (b : α → β) : β := b t
theorem jn_open {α β : Type} {r : β} {t : α} {b : α → β} {C : Prop} (e : r = jn t b) (k : ∀ j : α, j = t → r = b j → C) : C := k t rfl e
theorem va_rf_cat (r : Option Nat) : (va_rf r).category = 1 := by cases r <;> rfl
theorem X_cq {r : Option Nat} (hn : r = none → X Y s m D cl N a nL E pc L (.null :: st)) (hs : ¬ r = none → X Y s m D cl N a nL E pc L (.ref (a (r.getD 0)) :: st)) : X Y s m D cl N a nL E pc L (va_rf (r.map a) :: st) := by
  cases r with
  | none => exact hn rfl
  | some q => exact hs (fun h => by cases h)
end XL
end
section
/-! The two worlds: shapes of the class's 56 cells and of the reference's 27, and what each cell is. -/
abbrev xty (cI cZ cB cM : ClassId) : List (ClassId × FieldType) := [(cI, .int), (cZ, .boolean), (cB, .object "InSyncLog$Broker"), (cM, .object "InSyncLog$Message")]
def kC (cI cB cM : ClassId) (a P : Nat → Nat) (n : Nat) (f : Nat → Int32) : va_E :=
  if n = 0 then .inr (5, [.int (f 0), .int (f 1), .int (f 2), .ref (a 1), .ref (a 26), .ref (a 27), .int (f 6)])
  else if n = 1 then .inl (cB, 4, .inr (.inr (.inr (.inr (fun j => some (a (2 + j)))))))
  else if n < 6 then .inr (0, [.int (f 0), .ref (a (n + 4)), .ref (a (n + 16)), .ref (a (n + 20)), .int (f 4), .int (f 5), .int (f 6), .int (f 7), .int (f 8), .int (f 9), .int (f 10), .int (f 11)])
  else if n < 10 then .inr (3, [.ref (a (n + 4)), .ref (a (n + 8)), .int (f 2)])
  else if n < 18 then .inl (cI, 40, .inl f)
  else if n < 26 then .inl (cI, 4, .inl f)
  else if n = 26 then .inr (2, [.int (f 0), .int (f 1), .int (f 2)])
  else if n = 27 then .inr (1, [.ref (a 28), .int (f 1)])
  else if n = 28 then .inl (cM, 9, .inr (.inr (.inr (.inr (fun j => some (a (29 + P j)))))))
  else if n < 38 then .inr (4, [.ref (a (n + 9)), .ref (a (n + 18)), .int (f 2), .int (f 3), .int (f 4), .int (f 5), .int (f 6), .int (f 7), .int (f 8)])
  else .inl (cI, 3, .inl f)
section KC
variable {cI cB cM : ClassId} {a P : Nat → Nat} {n : Nat} {f : Nat → Int32}
theorem kC_I : kC cI cB cM a P 0 f = .inr (5, [.int (f 0), .int (f 1), .int (f 2), .ref (a 1), .ref (a 26), .ref (a 27), .int (f 6)]) := rfl
theorem kC_BA : kC cI cB cM a P 1 f = .inl (cB, 4, .inr (.inr (.inr (.inr (fun j => some (a (2 + j))))))) := rfl
theorem kC_B (n1 : 2 ≤ n) (n2 : n < 6) : kC cI cB cM a P n f = .inr (0, [.int (f 0), .ref (a (n + 4)), .ref (a (n + 16)), .ref (a (n + 20)), .int (f 4), .int (f 5), .int (f 6), .int (f 7), .int (f 8), .int (f 9), .int (f 10), .int (f 11)]) := by
  unfold kC
  rw [if_neg (by omega), if_neg (by omega), if_pos n2]
theorem kC_L (n1 : 6 ≤ n) (n2 : n < 10) : kC cI cB cM a P n f = .inr (3, [.ref (a (n + 4)), .ref (a (n + 8)), .int (f 2)]) := by
  unfold kC
  rw [if_neg (by omega), if_neg (by omega), if_neg (by omega), if_pos n2]
theorem kC_A40 (n1 : 10 ≤ n) (n2 : n < 18) : kC cI cB cM a P n f = .inl (cI, 40, .inl f) := by
  unfold kC
  rw [if_neg (by omega), if_neg (by omega), if_neg (by omega), if_neg (by omega), if_pos n2]
theorem kC_A4 (n1 : 18 ≤ n) (n2 : n < 26) : kC cI cB cM a P n f = .inl (cI, 4, .inl f) := by
  unfold kC
  rw [if_neg (by omega), if_neg (by omega), if_neg (by omega), if_neg (by omega), if_neg (by omega), if_pos n2]
theorem kC_T : kC cI cB cM a P 26 f = .inr (2, [.int (f 0), .int (f 1), .int (f 2)]) := rfl
theorem kC_H : kC cI cB cM a P 27 f = .inr (1, [.ref (a 28), .int (f 1)]) := rfl
theorem kC_MA : kC cI cB cM a P 28 f = .inl (cM, 9, .inr (.inr (.inr (.inr (fun j => some (a (29 + P j))))))) := rfl
theorem kC_G (n1 : 29 ≤ n) (n2 : n < 38) : kC cI cB cM a P n f = .inr (4, [.ref (a (n + 9)), .ref (a (n + 18)), .int (f 2), .int (f 3), .int (f 4), .int (f 5), .int (f 6), .int (f 7), .int (f 8)]) := by
  unfold kC
  rw [if_neg (by omega), if_neg (by omega), if_neg (by omega), if_neg (by omega), if_neg (by omega), if_neg (by omega), if_neg (by omega), if_neg (by omega), if_neg (by omega), if_pos n2]
theorem kC_A3 (n1 : 38 ≤ n) (_n2 : n < 56) : kC cI cB cM a P n f = .inl (cI, 3, .inl f) := by
  unfold kC
  rw [if_neg (by omega), if_neg (by omega), if_neg (by omega), if_neg (by omega), if_neg (by omega), if_neg (by omega), if_neg (by omega), if_neg (by omega), if_neg (by omega), if_neg (by omega)]
theorem kC_P {P' : Nat → Nat} : ∀ j : Nat, j ≠ 28 → kC cI cB cM a P' j = kC cI cB cM a P j := by
  intro j hj
  funext f
  unfold kC
  simp only [if_neg hj]
theorem kC_Pu {i w : Nat} : kC cI cB cM a (va_up P i w) 28 f = .inl (cM, 9, .inr (.inr (.inr (.inr (va_up (fun j => some (a (29 + P j))) i (some (a (29 + w)))))))) := by
  have e : (fun j => some (a (29 + va_up P i w j))) = va_up (fun j => some (a (29 + P j))) i (some (a (29 + w))) := by
    funext j
    unfold va_up
    split <;> rfl
  rw [kC_MA, e]
end KC
def kM (cI cZ : ClassId) (a : Nat → Nat) (n : Nat) (f : Nat → Int32) : va_E := match n with
  | 0 => .inr (6, [.int (f 0), .int (f 1), .int (f 2), .int (f 3), .int (f 4), .int (f 5), .ref (a 1), .int (f 7), .ref (a 2), .ref (a 3), .ref (a 4), .ref (a 5), .ref (a 6), .ref (a 7), .ref (a 8), .ref (a 9), .ref (a 10), .ref (a 11), .ref (a 12), .ref (a 13), .ref (a 14), .ref (a 15), .ref (a 16), .ref (a 17), .int (f 24), .ref (a 18), .ref (a 19), .ref (a 20), .ref (a 21), .ref (a 22), .ref (a 23), .ref (a 24), .ref (a 25), .ref (a 26)])
  | 1 => .inl (cZ, 4, .inl f)
  | 2 => .inl (cI, 520, .inl f)
  | 3 => .inl (cI, 520, .inl f)
  | 4 => .inl (cI, 520, .inl f)
  | 5 => .inl (cI, 520, .inl f)
  | 6 => .inl (cZ, 520, .inl f)
  | 7 => .inl (cI, 4, .inl f)
  | 8 => .inl (cI, 4, .inl f)
  | 9 => .inl (cZ, 4, .inl f)
  | 10 => .inl (cI, 4, .inl f)
  | 11 => .inl (cI, 4, .inl f)
  | 12 => .inl (cI, 4, .inl f)
  | 13 => .inl (cZ, 4, .inl f)
  | 14 => .inl (cZ, 16, .inl f)
  | 15 => .inl (cI, 16, .inl f)
  | 16 => .inl (cI, 16, .inl f)
  | 17 => .inl (cI, 4, .inl f)
  | _ => .inl (cI, 8, .inl f)
/-- a place that is in range is a number below the length -/
theorem vp_lt {i : Int32} {n : Nat} (h : vp_in i n) : i.toNatClampNeg < n := Nat.not_le.mp fun q => h (Or.inr q)
/-- a join: from a claim about all states at a place to each of them -/
theorem xjoin {α β : Prop} (h : α) (k : α → β) : β := k h
/-! one number of an object is written -/
section KP
variable {cI cZ cB cM : ClassId} {a P : Nat → Nat} {n : Nat} {f : Nat → Int32} {v : Int32}
theorem kp_T_0 : (.inr (2, List.set (α := Value) [.int (f 0), .int (f 1), .int (f 2)] 0 (.int v)) : va_E) = kC cI cB cM a P 26 (va_up f 0 v) := rfl
theorem kp_T_1 : (.inr (2, List.set (α := Value) [.int (f 0), .int (f 1), .int (f 2)] 1 (.int v)) : va_E) = kC cI cB cM a P 26 (va_up f 1 v) := rfl
theorem kp_T_2 : (.inr (2, List.set (α := Value) [.int (f 0), .int (f 1), .int (f 2)] 2 (.int v)) : va_E) = kC cI cB cM a P 26 (va_up f 2 v) := rfl
theorem kp_G_2 (n1 : 29 ≤ n) (n2 : n < 38) : (.inr (4, List.set (α := Value) [.ref (a (n + 9)), .ref (a (n + 18)), .int (f 2), .int (f 3), .int (f 4), .int (f 5), .int (f 6), .int (f 7), .int (f 8)] 2 (.int v)) : va_E) = kC cI cB cM a P n (va_up f 2 v) := by
  rw [kC_G n1 n2]
  rfl
theorem kp_G_3 (n1 : 29 ≤ n) (n2 : n < 38) : (.inr (4, List.set (α := Value) [.ref (a (n + 9)), .ref (a (n + 18)), .int (f 2), .int (f 3), .int (f 4), .int (f 5), .int (f 6), .int (f 7), .int (f 8)] 3 (.int v)) : va_E) = kC cI cB cM a P n (va_up f 3 v) := by
  rw [kC_G n1 n2]
  rfl
theorem kp_G_4 (n1 : 29 ≤ n) (n2 : n < 38) : (.inr (4, List.set (α := Value) [.ref (a (n + 9)), .ref (a (n + 18)), .int (f 2), .int (f 3), .int (f 4), .int (f 5), .int (f 6), .int (f 7), .int (f 8)] 4 (.int v)) : va_E) = kC cI cB cM a P n (va_up f 4 v) := by
  rw [kC_G n1 n2]
  rfl
theorem kp_G_5 (n1 : 29 ≤ n) (n2 : n < 38) : (.inr (4, List.set (α := Value) [.ref (a (n + 9)), .ref (a (n + 18)), .int (f 2), .int (f 3), .int (f 4), .int (f 5), .int (f 6), .int (f 7), .int (f 8)] 5 (.int v)) : va_E) = kC cI cB cM a P n (va_up f 5 v) := by
  rw [kC_G n1 n2]
  rfl
theorem kp_G_6 (n1 : 29 ≤ n) (n2 : n < 38) : (.inr (4, List.set (α := Value) [.ref (a (n + 9)), .ref (a (n + 18)), .int (f 2), .int (f 3), .int (f 4), .int (f 5), .int (f 6), .int (f 7), .int (f 8)] 6 (.int v)) : va_E) = kC cI cB cM a P n (va_up f 6 v) := by
  rw [kC_G n1 n2]
  rfl
theorem kp_G_7 (n1 : 29 ≤ n) (n2 : n < 38) : (.inr (4, List.set (α := Value) [.ref (a (n + 9)), .ref (a (n + 18)), .int (f 2), .int (f 3), .int (f 4), .int (f 5), .int (f 6), .int (f 7), .int (f 8)] 7 (.int v)) : va_E) = kC cI cB cM a P n (va_up f 7 v) := by
  rw [kC_G n1 n2]
  rfl
theorem kp_G_8 (n1 : 29 ≤ n) (n2 : n < 38) : (.inr (4, List.set (α := Value) [.ref (a (n + 9)), .ref (a (n + 18)), .int (f 2), .int (f 3), .int (f 4), .int (f 5), .int (f 6), .int (f 7), .int (f 8)] 8 (.int v)) : va_E) = kC cI cB cM a P n (va_up f 8 v) := by
  rw [kC_G n1 n2]
  rfl
theorem kp_H_1 : (.inr (1, List.set (α := Value) [.ref (a 28), .int (f 1)] 1 (.int v)) : va_E) = kC cI cB cM a P 27 (va_up f 1 v) := rfl
theorem kp_L_2 (n1 : 6 ≤ n) (n2 : n < 10) : (.inr (3, List.set (α := Value) [.ref (a (n + 4)), .ref (a (n + 8)), .int (f 2)] 2 (.int v)) : va_E) = kC cI cB cM a P n (va_up f 2 v) := by
  rw [kC_L n1 n2]
  rfl
theorem kp_B_0 (n1 : 2 ≤ n) (n2 : n < 6) : (.inr (0, List.set (α := Value) [.int (f 0), .ref (a (n + 4)), .ref (a (n + 16)), .ref (a (n + 20)), .int (f 4), .int (f 5), .int (f 6), .int (f 7), .int (f 8), .int (f 9), .int (f 10), .int (f 11)] 0 (.int v)) : va_E) = kC cI cB cM a P n (va_up f 0 v) := by
  rw [kC_B n1 n2]
  rfl
theorem kp_B_4 (n1 : 2 ≤ n) (n2 : n < 6) : (.inr (0, List.set (α := Value) [.int (f 0), .ref (a (n + 4)), .ref (a (n + 16)), .ref (a (n + 20)), .int (f 4), .int (f 5), .int (f 6), .int (f 7), .int (f 8), .int (f 9), .int (f 10), .int (f 11)] 4 (.int v)) : va_E) = kC cI cB cM a P n (va_up f 4 v) := by
  rw [kC_B n1 n2]
  rfl
theorem kp_B_5 (n1 : 2 ≤ n) (n2 : n < 6) : (.inr (0, List.set (α := Value) [.int (f 0), .ref (a (n + 4)), .ref (a (n + 16)), .ref (a (n + 20)), .int (f 4), .int (f 5), .int (f 6), .int (f 7), .int (f 8), .int (f 9), .int (f 10), .int (f 11)] 5 (.int v)) : va_E) = kC cI cB cM a P n (va_up f 5 v) := by
  rw [kC_B n1 n2]
  rfl
theorem kp_B_6 (n1 : 2 ≤ n) (n2 : n < 6) : (.inr (0, List.set (α := Value) [.int (f 0), .ref (a (n + 4)), .ref (a (n + 16)), .ref (a (n + 20)), .int (f 4), .int (f 5), .int (f 6), .int (f 7), .int (f 8), .int (f 9), .int (f 10), .int (f 11)] 6 (.int v)) : va_E) = kC cI cB cM a P n (va_up f 6 v) := by
  rw [kC_B n1 n2]
  rfl
theorem kp_B_7 (n1 : 2 ≤ n) (n2 : n < 6) : (.inr (0, List.set (α := Value) [.int (f 0), .ref (a (n + 4)), .ref (a (n + 16)), .ref (a (n + 20)), .int (f 4), .int (f 5), .int (f 6), .int (f 7), .int (f 8), .int (f 9), .int (f 10), .int (f 11)] 7 (.int v)) : va_E) = kC cI cB cM a P n (va_up f 7 v) := by
  rw [kC_B n1 n2]
  rfl
theorem kp_B_8 (n1 : 2 ≤ n) (n2 : n < 6) : (.inr (0, List.set (α := Value) [.int (f 0), .ref (a (n + 4)), .ref (a (n + 16)), .ref (a (n + 20)), .int (f 4), .int (f 5), .int (f 6), .int (f 7), .int (f 8), .int (f 9), .int (f 10), .int (f 11)] 8 (.int v)) : va_E) = kC cI cB cM a P n (va_up f 8 v) := by
  rw [kC_B n1 n2]
  rfl
theorem kp_B_9 (n1 : 2 ≤ n) (n2 : n < 6) : (.inr (0, List.set (α := Value) [.int (f 0), .ref (a (n + 4)), .ref (a (n + 16)), .ref (a (n + 20)), .int (f 4), .int (f 5), .int (f 6), .int (f 7), .int (f 8), .int (f 9), .int (f 10), .int (f 11)] 9 (.int v)) : va_E) = kC cI cB cM a P n (va_up f 9 v) := by
  rw [kC_B n1 n2]
  rfl
theorem kp_B_10 (n1 : 2 ≤ n) (n2 : n < 6) : (.inr (0, List.set (α := Value) [.int (f 0), .ref (a (n + 4)), .ref (a (n + 16)), .ref (a (n + 20)), .int (f 4), .int (f 5), .int (f 6), .int (f 7), .int (f 8), .int (f 9), .int (f 10), .int (f 11)] 10 (.int v)) : va_E) = kC cI cB cM a P n (va_up f 10 v) := by
  rw [kC_B n1 n2]
  rfl
theorem kp_B_11 (n1 : 2 ≤ n) (n2 : n < 6) : (.inr (0, List.set (α := Value) [.int (f 0), .ref (a (n + 4)), .ref (a (n + 16)), .ref (a (n + 20)), .int (f 4), .int (f 5), .int (f 6), .int (f 7), .int (f 8), .int (f 9), .int (f 10), .int (f 11)] 11 (.int v)) : va_E) = kC cI cB cM a P n (va_up f 11 v) := by
  rw [kC_B n1 n2]
  rfl
theorem kp_I_0 : (.inr (5, List.set (α := Value) [.int (f 0), .int (f 1), .int (f 2), .ref (a 1), .ref (a 26), .ref (a 27), .int (f 6)] 0 (.int v)) : va_E) = kC cI cB cM a P 0 (va_up f 0 v) := rfl
theorem kp_I_1 : (.inr (5, List.set (α := Value) [.int (f 0), .int (f 1), .int (f 2), .ref (a 1), .ref (a 26), .ref (a 27), .int (f 6)] 1 (.int v)) : va_E) = kC cI cB cM a P 0 (va_up f 1 v) := rfl
theorem kp_I_2 : (.inr (5, List.set (α := Value) [.int (f 0), .int (f 1), .int (f 2), .ref (a 1), .ref (a 26), .ref (a 27), .int (f 6)] 2 (.int v)) : va_E) = kC cI cB cM a P 0 (va_up f 2 v) := rfl
theorem kp_I_6 : (.inr (5, List.set (α := Value) [.int (f 0), .int (f 1), .int (f 2), .ref (a 1), .ref (a 26), .ref (a 27), .int (f 6)] 6 (.int v)) : va_E) = kC cI cB cM a P 0 (va_up f 6 v) := rfl
theorem kp_M_0 : (.inr (6, List.set (α := Value) [.int (f 0), .int (f 1), .int (f 2), .int (f 3), .int (f 4), .int (f 5), .ref (a 1), .int (f 7), .ref (a 2), .ref (a 3), .ref (a 4), .ref (a 5), .ref (a 6), .ref (a 7), .ref (a 8), .ref (a 9), .ref (a 10), .ref (a 11), .ref (a 12), .ref (a 13), .ref (a 14), .ref (a 15), .ref (a 16), .ref (a 17), .int (f 24), .ref (a 18), .ref (a 19), .ref (a 20), .ref (a 21), .ref (a 22), .ref (a 23), .ref (a 24), .ref (a 25), .ref (a 26)] 0 (.int v)) : va_E) = kM cI cZ a 0 (va_up f 0 v) := rfl
theorem kp_M_1 : (.inr (6, List.set (α := Value) [.int (f 0), .int (f 1), .int (f 2), .int (f 3), .int (f 4), .int (f 5), .ref (a 1), .int (f 7), .ref (a 2), .ref (a 3), .ref (a 4), .ref (a 5), .ref (a 6), .ref (a 7), .ref (a 8), .ref (a 9), .ref (a 10), .ref (a 11), .ref (a 12), .ref (a 13), .ref (a 14), .ref (a 15), .ref (a 16), .ref (a 17), .int (f 24), .ref (a 18), .ref (a 19), .ref (a 20), .ref (a 21), .ref (a 22), .ref (a 23), .ref (a 24), .ref (a 25), .ref (a 26)] 1 (.int v)) : va_E) = kM cI cZ a 0 (va_up f 1 v) := rfl
theorem kp_M_2 : (.inr (6, List.set (α := Value) [.int (f 0), .int (f 1), .int (f 2), .int (f 3), .int (f 4), .int (f 5), .ref (a 1), .int (f 7), .ref (a 2), .ref (a 3), .ref (a 4), .ref (a 5), .ref (a 6), .ref (a 7), .ref (a 8), .ref (a 9), .ref (a 10), .ref (a 11), .ref (a 12), .ref (a 13), .ref (a 14), .ref (a 15), .ref (a 16), .ref (a 17), .int (f 24), .ref (a 18), .ref (a 19), .ref (a 20), .ref (a 21), .ref (a 22), .ref (a 23), .ref (a 24), .ref (a 25), .ref (a 26)] 2 (.int v)) : va_E) = kM cI cZ a 0 (va_up f 2 v) := rfl
theorem kp_M_3 : (.inr (6, List.set (α := Value) [.int (f 0), .int (f 1), .int (f 2), .int (f 3), .int (f 4), .int (f 5), .ref (a 1), .int (f 7), .ref (a 2), .ref (a 3), .ref (a 4), .ref (a 5), .ref (a 6), .ref (a 7), .ref (a 8), .ref (a 9), .ref (a 10), .ref (a 11), .ref (a 12), .ref (a 13), .ref (a 14), .ref (a 15), .ref (a 16), .ref (a 17), .int (f 24), .ref (a 18), .ref (a 19), .ref (a 20), .ref (a 21), .ref (a 22), .ref (a 23), .ref (a 24), .ref (a 25), .ref (a 26)] 3 (.int v)) : va_E) = kM cI cZ a 0 (va_up f 3 v) := rfl
theorem kp_M_4 : (.inr (6, List.set (α := Value) [.int (f 0), .int (f 1), .int (f 2), .int (f 3), .int (f 4), .int (f 5), .ref (a 1), .int (f 7), .ref (a 2), .ref (a 3), .ref (a 4), .ref (a 5), .ref (a 6), .ref (a 7), .ref (a 8), .ref (a 9), .ref (a 10), .ref (a 11), .ref (a 12), .ref (a 13), .ref (a 14), .ref (a 15), .ref (a 16), .ref (a 17), .int (f 24), .ref (a 18), .ref (a 19), .ref (a 20), .ref (a 21), .ref (a 22), .ref (a 23), .ref (a 24), .ref (a 25), .ref (a 26)] 4 (.int v)) : va_E) = kM cI cZ a 0 (va_up f 4 v) := rfl
theorem kp_M_5 : (.inr (6, List.set (α := Value) [.int (f 0), .int (f 1), .int (f 2), .int (f 3), .int (f 4), .int (f 5), .ref (a 1), .int (f 7), .ref (a 2), .ref (a 3), .ref (a 4), .ref (a 5), .ref (a 6), .ref (a 7), .ref (a 8), .ref (a 9), .ref (a 10), .ref (a 11), .ref (a 12), .ref (a 13), .ref (a 14), .ref (a 15), .ref (a 16), .ref (a 17), .int (f 24), .ref (a 18), .ref (a 19), .ref (a 20), .ref (a 21), .ref (a 22), .ref (a 23), .ref (a 24), .ref (a 25), .ref (a 26)] 5 (.int v)) : va_E) = kM cI cZ a 0 (va_up f 5 v) := rfl
theorem kp_M_7 : (.inr (6, List.set (α := Value) [.int (f 0), .int (f 1), .int (f 2), .int (f 3), .int (f 4), .int (f 5), .ref (a 1), .int (f 7), .ref (a 2), .ref (a 3), .ref (a 4), .ref (a 5), .ref (a 6), .ref (a 7), .ref (a 8), .ref (a 9), .ref (a 10), .ref (a 11), .ref (a 12), .ref (a 13), .ref (a 14), .ref (a 15), .ref (a 16), .ref (a 17), .int (f 24), .ref (a 18), .ref (a 19), .ref (a 20), .ref (a 21), .ref (a 22), .ref (a 23), .ref (a 24), .ref (a 25), .ref (a 26)] 7 (.int v)) : va_E) = kM cI cZ a 0 (va_up f 7 v) := rfl
theorem kp_M_24 : (.inr (6, List.set (α := Value) [.int (f 0), .int (f 1), .int (f 2), .int (f 3), .int (f 4), .int (f 5), .ref (a 1), .int (f 7), .ref (a 2), .ref (a 3), .ref (a 4), .ref (a 5), .ref (a 6), .ref (a 7), .ref (a 8), .ref (a 9), .ref (a 10), .ref (a 11), .ref (a 12), .ref (a 13), .ref (a 14), .ref (a 15), .ref (a 16), .ref (a 17), .int (f 24), .ref (a 18), .ref (a 19), .ref (a 20), .ref (a 21), .ref (a 22), .ref (a 23), .ref (a 24), .ref (a 25), .ref (a 26)] 24 (.int v)) : va_E) = kM cI cZ a 0 (va_up f 24 v) := rfl
end KP
/-! a method's end: its function's value against the state -/
theorem gp_eq {cI cB cM : ClassId} {a : Nat → Nat} {α : Type} {f : α × (Nat → Nat → Int32) × (Nat → Nat)} {r : α} {A : Nat → Nat → Int32} {B : Nat → Nat} (E : f = (r, A, B)) : kg (kC cI cB cM a B) A = kg (kC cI cB cM a f.2.2) f.2.1 := by rw [E]
theorem gp_r {α : Type} {f : α × (Nat → Nat → Int32) × (Nat → Nat)} {r : α} {A : Nat → Nat → Int32} {B : Nat → Nat} (E : f = (r, A, B)) : r = f.1 := by rw [E]
theorem g_eq {K : Nat → (Nat → Int32) → va_E} {α : Type} {f : α × (Nat → Nat → Int32)} {r : α} {A : Nat → Nat → Int32} (E : f = (r, A)) : kg K A = kg K f.2 := by rw [E]
theorem g_r {α : Type} {f : α × (Nat → Nat → Int32)} {r : α} {A : Nat → Nat → Int32} (E : f = (r, A)) : r = f.1 := by rw [E]
theorem gv_eq {K : Nat → (Nat → Int32) → va_E} {f A : Nat → Nat → Int32} (E : f = A) : kg K A = kg K f := by rw [E]
end
section
/-! Numbers: counting loops, switches, small facts of Int32. -/
theorem i_sub {a b : Int32} (h1 : -2147483648 ≤ a.toInt - b.toInt) (h2 : a.toInt - b.toInt < 2147483648) : (a - b).toInt = a.toInt - b.toInt := by
  rw [Int32.toInt_sub]
  exact Int.bmod_eq_of_le (by omega) (by omega)
theorem i_add {a b : Int32} (h1 : -2147483648 ≤ a.toInt + b.toInt) (h2 : a.toInt + b.toInt < 2147483648) : (a + b).toInt = a.toInt + b.toInt := by
  rw [Int32.toInt_add]
  exact Int.bmod_eq_of_le (by omega) (by omega)
theorem i_lt {a b : Int32} : a < b ↔ a.toInt < b.toInt := Int32.lt_iff_toInt_lt
theorem i_le {a b : Int32} : a ≤ b ↔ a.toInt ≤ b.toInt := Int32.le_iff_toInt_le
theorem i0 : (0 : Int32).toInt = 0 := by decide
theorem i1 : (1 : Int32).toInt = 1 := by decide
theorem im1 : (-1 : Int32).toInt = -1 := by decide
theorem i3 : (3 : Int32).toInt = 3 := by decide
theorem i4 : (4 : Int32).toInt = 4 := by decide
theorem i8 : (8 : Int32).toInt = 8 := by decide
theorem i40 : (40 : Int32).toInt = 40 := by decide
theorem i41 : (41 : Int32).toInt = 41 := by decide
/-- up: k goes from c down to 1, v = c - k, the loop ends at c - 1 -/
theorem lc_lt {c k : Nat} {v b : Int32} (hc : c < 1000) (hb : b = nI (c - 1)) (h1 : k + 1 ≤ c) (hv : v = nI (c - (k + 1))) (h : ¬ b ≤ v) : 0 < k := by
  subst hb; subst hv
  have h2 : ¬ (c - 1 ≤ c - (k + 1)) := fun q => h ((nI_leI (by omega) (by omega)).mpr q)
  omega
theorem lc_step {c k : Nat} {v b : Int32} (hc : c < 1000) (hb : b = nI (c - 1)) (_h0 : 0 < k + 1) (h1 : k + 1 ≤ c) (hv : v = nI (c - (k + 1))) (h : ¬ b ≤ v) : 0 < k ∧ k ≤ c ∧ v + 1 = nI (c - k) := by
  have h0 := lc_lt hc hb h1 hv h
  refine ⟨h0, by omega, ?_⟩
  rw [hv, nI_1, show c - (k + 1) + 1 = c - k by omega]
theorem lc_in {c k : Nat} {v b : Int32} (hc : c < 1000) (hb : b = nI (c - 1)) (h1 : k + 1 ≤ c) (hv : v = nI (c - (k + 1))) (h : ¬ b ≤ v) : vp_in v (c - 1) := by
  have h0 := lc_lt hc hb h1 hv h
  rw [hv]
  exact vp_in_nI (by omega) (by omega)
/-- down: k goes from c down to 1, v = k - 2, the loop ends below 0 -/
theorem ld_lt {k : Nat} {v : Int32} (hv : v = nI (k + 1 - 1) - 1) (h : ¬ v < 0) : 0 < k := by
  rcases Nat.eq_zero_or_pos k with h0 | h0
  · subst h0
    exact absurd (by rw [hv]; decide) h
  · exact h0
theorem ld_step {c k : Nat} {v : Int32} (_hc : c < 1000) (_ht : True) (_h0 : 0 < k + 1) (h1 : k + 1 ≤ c) (hv : v = nI (k + 1 - 1) - 1) (h : ¬ v < 0) : 0 < k ∧ k ≤ c ∧ v + (-1) = nI (k - 1) - 1 := by
  have h0 := ld_lt hv h
  obtain ⟨j, rfl⟩ : ∃ j, k = j + 1 := ⟨k - 1, by omega⟩
  refine ⟨h0, by omega, ?_⟩
  rw [hv, show j + 1 + 1 - 1 = j + 1 by omega, nI_pred, show j + 1 - 1 = j by omega, Int32.sub_eq_add_neg]
theorem ld_in {c k : Nat} {v : Int32} (hc : c < 1000) (_ht : True) (h1 : k + 1 ≤ c) (hv : v = nI (k + 1 - 1) - 1) (h : ¬ v < 0) : vp_in v (c - 1) := by
  have h0 := ld_lt hv h
  obtain ⟨j, rfl⟩ : ∃ j, k = j + 1 := ⟨k - 1, by omega⟩
  rw [hv, show j + 1 + 1 - 1 = j + 1 by omega, nI_pred]
  exact vp_in_nI (by omega) (by omega)
theorem fl_lt {len k : Nat} {v : Int32} (hl : len < 1000) (hI : 0 < k + 1 ∧ k + 1 ≤ len + 1 ∧ v = nI (len + 1 - (k + 1))) (h : ¬ nI len ≤ v) : 0 < k := by
  obtain ⟨_, h1, rfl⟩ := hI
  have h2 : ¬ (len ≤ len + 1 - (k + 1)) := fun q => h ((nI_leI (by omega) (by omega)).mpr q)
  omega
theorem fl_step {len k : Nat} {v : Int32} (hl : len < 1000) (hI : 0 < k + 1 ∧ k + 1 ≤ len + 1 ∧ v = nI (len + 1 - (k + 1))) (h : ¬ nI len ≤ v) : 0 < k ∧ k ≤ len + 1 ∧ v + 1 = nI (len + 1 - k) := by
  have h0 := fl_lt hl hI h
  refine ⟨h0, by omega, ?_⟩
  rw [hI.2.2, nI_1, show len + 1 - (k + 1) + 1 = len + 1 - k by omega]
theorem fl_in {len k : Nat} {v : Int32} (hl : len < 1000) (hI : 0 < k + 1 ∧ k + 1 ≤ len + 1 ∧ v = nI (len + 1 - (k + 1))) (h : ¬ nI len ≤ v) : vp_in v len := by
  have h0 := fl_lt hl hI h
  rw [hI.2.2]
  exact vp_in_nI (by omega) (by omega)
theorem tb_0_2 {x : Int32} (h0 : ¬ x = 0) (h1 : ¬ x = 1) (h2 : ¬ x = 2) : x.toInt < 0 ∨ 2 < x.toInt := by
  have a0 := lv_neT h0 (a := 0) (by decide)
  have a1 := lv_neT h1 (a := 1) (by decide)
  have a2 := lv_neT h2 (a := 2) (by decide)
  omega
theorem tb_0_6 {x : Int32} (h0 : ¬ x = 0) (h1 : ¬ x = 1) (h2 : ¬ x = 2) (h3 : ¬ x = 3) (h4 : ¬ x = 4) (h5 : ¬ x = 5) (h6 : ¬ x = 6) : x.toInt < 0 ∨ 6 < x.toInt := by
  have a0 := lv_neT h0 (a := 0) (by decide)
  have a1 := lv_neT h1 (a := 1) (by decide)
  have a2 := lv_neT h2 (a := 2) (by decide)
  have a3 := lv_neT h3 (a := 3) (by decide)
  have a4 := lv_neT h4 (a := 4) (by decide)
  have a5 := lv_neT h5 (a := 5) (by decide)
  have a6 := lv_neT h6 (a := 6) (by decide)
  omega
theorem in8_9 : vp_in 8 9 := by
  rw [vp_in_iff, i8]
  omega
def f_I_isBroker (x1 : Int32) : Int32 := (if x1 < 0 then 0 else (if 4 ≤ x1 then 0 else 1))
theorem e_I_isBroker : y_I_isBroker.cls ≠ "java/lang/invoke/MethodHandle" ∧ y_I_isBroker.cls ≠ "java/lang/invoke/VarHandle" ∧ (parseMethodDescriptor y_I_isBroker.desc).map (fun d => d.parameters.length) = some 1 := by decide +kernel
set_option maxHeartbeats 4000000 in
set_option maxRecDepth 100000 in
theorem m_I_isBroker (l : Launch) (D : va_G) (cl : List vw_C) (tys : List (ClassId × FieldType)) (N : Nat) (a : Nat → Nat) (hJ : xJ N a) (K : Nat → (Nat → Int32) → va_E) (G : Nat → Nat → Int32) (x1 : Int32) : Met l y_I_isBroker (Cond.code y_I_isBroker prog_1_method_22_code 1 (Option.some FieldType.boolean) :: wsBig) { frames := 0, cells := 0, slots := 0, locals := 0 } (xP D cl tys N a (kg K G) [.int x1]) (xQi D cl N a (f_I_isBroker x1) (kg K G)) 0 0 (xA N a) := by
  refine X_met (by decide) rfl (Nat.le_of_ble_eq_true rfl) hJ (fun Y s m args Γ => ?_)
  show X Y s m D cl N a 1 (kg K G) 0 [(0, .int x1)] []
  have E := f_I_isBroker.eq_1 x1
  refine X_iload_n Γ d_I_isBroker_0 rfl 0 rfl rfl ?_
  refine X_if_lt (tgt := 13) Γ d_I_isBroker_1 (by decide) rfl (fun h1 => ?_) (fun h1 => ?_)
  · replace E := E.trans (if_pos h1)
    refine X_iconst (v := 0) Γ d_I_isBroker_13 (by decide) rfl ?_
    exact X_iretz Γ d_I_isBroker_14 rfl E.symm rfl
  · replace E := E.trans (if_neg h1)
    refine X_iload_n Γ d_I_isBroker_4 rfl 0 rfl rfl ?_
    refine X_iconst (v := 4) Γ d_I_isBroker_5 (by decide) rfl ?_
    refine X_icmp_ge (tgt := 13) Γ d_I_isBroker_6 (by decide) rfl (fun h6 => ?_) (fun h6 => ?_)
    · replace E := E.trans (if_pos h6)
      refine X_iconst (v := 0) Γ d_I_isBroker_13 (by decide) rfl ?_
      exact X_iretz Γ d_I_isBroker_14 rfl E.symm rfl
    · replace E := E.trans (if_neg h6)
      refine X_iconst (v := 1) Γ d_I_isBroker_9 (by decide) rfl ?_
      refine X_goto (pc' := 14) Γ d_I_isBroker_10 (by decide) ?_
      exact X_iretz Γ d_I_isBroker_14 rfl E.symm rfl
def f_M_isBroker (x1 : Int32) : Int32 := (if x1 < 0 then 0 else (if 4 ≤ x1 then 0 else 1))
theorem e_M_isBroker : y_M_isBroker.cls ≠ "java/lang/invoke/MethodHandle" ∧ y_M_isBroker.cls ≠ "java/lang/invoke/VarHandle" ∧ (parseMethodDescriptor y_M_isBroker.desc).map (fun d => d.parameters.length) = some 1 := by decide +kernel
set_option maxHeartbeats 4000000 in
set_option maxRecDepth 100000 in
theorem m_M_isBroker (l : Launch) (D : va_G) (cl : List vw_C) (tys : List (ClassId × FieldType)) (N : Nat) (a : Nat → Nat) (hJ : xJ N a) (K : Nat → (Nat → Int32) → va_E) (G : Nat → Nat → Int32) (x1 : Int32) : Met l y_M_isBroker (Cond.code y_M_isBroker prog_8_method_2_code 1 (Option.some FieldType.boolean) :: wsBig) { frames := 0, cells := 0, slots := 0, locals := 0 } (xP D cl tys N a (kg K G) [.int x1]) (xQi D cl N a (f_M_isBroker x1) (kg K G)) 0 0 (xA N a) := by
  refine X_met (by decide) rfl (Nat.le_of_ble_eq_true rfl) hJ (fun Y s m args Γ => ?_)
  show X Y s m D cl N a 1 (kg K G) 0 [(0, .int x1)] []
  have E := f_M_isBroker.eq_1 x1
  refine X_iload_n Γ d_M_isBroker_0 rfl 0 rfl rfl ?_
  refine X_if_lt (tgt := 13) Γ d_M_isBroker_1 (by decide) rfl (fun h1 => ?_) (fun h1 => ?_)
  · replace E := E.trans (if_pos h1)
    refine X_iconst (v := 0) Γ d_M_isBroker_13 (by decide) rfl ?_
    exact X_iretz Γ d_M_isBroker_14 rfl E.symm rfl
  · replace E := E.trans (if_neg h1)
    refine X_iload_n Γ d_M_isBroker_4 rfl 0 rfl rfl ?_
    refine X_iconst (v := 4) Γ d_M_isBroker_5 (by decide) rfl ?_
    refine X_icmp_ge (tgt := 13) Γ d_M_isBroker_6 (by decide) rfl (fun h6 => ?_) (fun h6 => ?_)
    · replace E := E.trans (if_pos h6)
      refine X_iconst (v := 0) Γ d_M_isBroker_13 (by decide) rfl ?_
      exact X_iretz Γ d_M_isBroker_14 rfl E.symm rfl
    · replace E := E.trans (if_neg h6)
      refine X_iconst (v := 1) Γ d_M_isBroker_9 (by decide) rfl ?_
      refine X_goto (pc' := 14) Γ d_M_isBroker_10 (by decide) ?_
      exact X_iretz Γ d_M_isBroker_14 rfl E.symm rfl
def f_I_contains (x1 : Int32) (x2 : Int32) : Int32 := (if ((x1 >>> (x2 &&& 31)) &&& 1) = 1 then 1 else 0)
theorem e_I_contains : y_I_contains.cls ≠ "java/lang/invoke/MethodHandle" ∧ y_I_contains.cls ≠ "java/lang/invoke/VarHandle" ∧ (parseMethodDescriptor y_I_contains.desc).map (fun d => d.parameters.length) = some 2 := by decide +kernel
set_option maxHeartbeats 4000000 in
set_option maxRecDepth 100000 in
theorem m_I_contains (l : Launch) (D : va_G) (cl : List vw_C) (tys : List (ClassId × FieldType)) (N : Nat) (a : Nat → Nat) (hJ : xJ N a) (K : Nat → (Nat → Int32) → va_E) (G : Nat → Nat → Int32) (x1 : Int32) (x2 : Int32) : Met l y_I_contains (Cond.code y_I_contains prog_1_method_23_code 2 (Option.some FieldType.boolean) :: wsBig) { frames := 0, cells := 0, slots := 0, locals := 0 } (xP D cl tys N a (kg K G) [.int x1, .int x2]) (xQi D cl N a (f_I_contains x1 x2) (kg K G)) 0 0 (xA N a) := by
  refine X_met (by decide) rfl (Nat.le_of_ble_eq_true rfl) hJ (fun Y s m args Γ => ?_)
  show X Y s m D cl N a 2 (kg K G) 0 [(0, .int x1), (1, .int x2)] []
  have E := f_I_contains.eq_1 x1 x2
  refine X_iload_n Γ d_I_contains_0 rfl 0 rfl rfl ?_
  refine X_iload_n Γ d_I_contains_1 rfl 1 rfl rfl ?_
  refine X_ishr Γ d_I_contains_2 rfl ?_
  refine X_iconst (v := 1) Γ d_I_contains_3 (by decide) rfl ?_
  refine X_iand Γ d_I_contains_4 rfl ?_
  refine X_iconst (v := 1) Γ d_I_contains_5 (by decide) rfl ?_
  refine X_icmp_ne (tgt := 13) Γ d_I_contains_6 (by decide) rfl (fun h6 => ?_) (fun h6 => ?_)
  · replace E := E.trans (if_neg h6)
    refine X_iconst (v := 0) Γ d_I_contains_13 (by decide) rfl ?_
    exact X_iretz Γ d_I_contains_14 rfl E.symm rfl
  · replace E := E.trans (if_pos h6)
    refine X_iconst (v := 1) Γ d_I_contains_9 (by decide) rfl ?_
    refine X_goto (pc' := 14) Γ d_I_contains_10 (by decide) ?_
    exact X_iretz Γ d_I_contains_14 rfl E.symm rfl
def f_I_nearest (x1 : Int32) (x2 : Int32) (x3 : Int32) : Int32 := (if x2 < (if x1 < x3 then x1 else x3) then (if x1 < x3 then x1 else x3) else x2)
theorem e_I_nearest : y_I_nearest.cls ≠ "java/lang/invoke/MethodHandle" ∧ y_I_nearest.cls ≠ "java/lang/invoke/VarHandle" ∧ (parseMethodDescriptor y_I_nearest.desc).map (fun d => d.parameters.length) = some 3 := by decide +kernel
set_option maxHeartbeats 4000000 in
set_option maxRecDepth 100000 in
theorem m_I_nearest (l : Launch) (D : va_G) (cl : List vw_C) (tys : List (ClassId × FieldType)) (N : Nat) (a : Nat → Nat) (hJ : xJ N a) (K : Nat → (Nat → Int32) → va_E) (G : Nat → Nat → Int32) (x1 : Int32) (x2 : Int32) (x3 : Int32) : Met l y_I_nearest (Cond.code y_I_nearest prog_1_method_21_code 3 (Option.some FieldType.int) :: wsBig) { frames := 1, cells := 0, slots := 0, locals := 21 } (xP D cl tys N a (kg K G) [.int x1, .int x2, .int x3]) (xQi D cl N a (f_I_nearest x1 x2 x3) (kg K G)) 0 0 (xA N a) := by
  refine X_met (by decide) rfl (Nat.le_of_ble_eq_true rfl) hJ (fun Y s m args Γ => ?_)
  show X Y s m D cl N a 3 (kg K G) 0 [(0, .int x1), (1, .int x2), (2, .int x3)] []
  have E := f_I_nearest.eq_1 x1 x2 x3
  refine X_iload_n Γ d_I_nearest_0 rfl 1 rfl rfl ?_
  refine X_iload_n Γ d_I_nearest_1 rfl 2 rfl rfl ?_
  refine X_iload_n Γ d_I_nearest_2 rfl 0 rfl rfl ?_
  refine X_mmin Γ d_I_nearest_3 w22 w23 w2 w24 (by decide) (Nat.le_of_ble_eq_true rfl) rfl ?_
  refine X_mmax Γ d_I_nearest_6 w25 w26 w2 w27 (by decide) (Nat.le_of_ble_eq_true rfl) rfl ?_
  exact X_ireti Γ d_I_nearest_9 E.symm rfl
def f_I_leastOf_2 (x1 : Int32) : Nat → Int32 → Int32
  | 0, v1_2 => 0
  | k2 + 1, v1_2 => (if 4 ≤ v1_2 then (-1) else (if ((f_I_contains x1 v1_2)) = 0 then (f_I_leastOf_2 x1 k2 (v1_2 + 1)) else v1_2))
def f_I_leastOf (x1 : Int32) : Int32 := (f_I_leastOf_2 x1 5 0)
theorem e_I_leastOf : y_I_leastOf.cls ≠ "java/lang/invoke/MethodHandle" ∧ y_I_leastOf.cls ≠ "java/lang/invoke/VarHandle" ∧ (parseMethodDescriptor y_I_leastOf.desc).map (fun d => d.parameters.length) = some 1 := by decide +kernel
set_option maxHeartbeats 4000000 in
set_option maxRecDepth 100000 in
theorem m_I_leastOf (l : Launch) (D : va_G) (cl : List vw_C) (tys : List (ClassId × FieldType)) (N : Nat) (a : Nat → Nat) (hJ : xJ N a) (K : Nat → (Nat → Int32) → va_E) (G : Nat → Nat → Int32) (x1 : Int32) : Met l y_I_leastOf (Cond.code y_I_leastOf prog_1_method_24_code 2 (Option.some FieldType.int) :: wsBig) { frames := 1, cells := 0, slots := 0, locals := 21 } (xP D cl tys N a (kg K G) [.int x1]) (xQi D cl N a (f_I_leastOf x1) (kg K G)) 0 0 (xA N a) := by
  refine X_met (by decide) rfl (Nat.le_of_ble_eq_true rfl) hJ (fun Y s m args Γ => ?_)
  show X Y s m D cl N a 2 (kg K G) 0 [(0, .int x1)] []
  have E := f_I_leastOf.eq_1 x1
  refine X_iconst (v := 0) Γ d_I_leastOf_0 (by decide) rfl ?_
  refine X_istore_n Γ d_I_leastOf_1 rfl (by decide) rfl rfl ?_
  have J2 : ∀ (k2 : Nat) (v1_2 : Int32), (0 < k2 ∧ k2 ≤ 5 ∧ v1_2 = nI (5 - k2)) → f_I_leastOf x1 = f_I_leastOf_2 x1 k2 v1_2 → X Y s m D cl N a 2 (kg K G) 2 [(0, .int x1), (1, .int v1_2)] [] := by
    intro k2
    induction k2 with
    | zero => exact fun v1_2 hI2 _ => absurd hI2 (fun h => Nat.lt_irrefl 0 h.1)
    | succ k2 ih2 =>
      intro v1_2 hI2 E
      rw [f_I_leastOf_2] at E
      refine X_iload_n Γ d_I_leastOf_2 rfl 1 rfl rfl ?_
      refine X_iconst (v := 4) Γ d_I_leastOf_3 (by decide) rfl ?_
      refine X_icmp_ge (tgt := 23) Γ d_I_leastOf_4 (by decide) rfl (fun h4 => ?_) (fun h4 => ?_)
      · replace E := E.trans (if_pos h4)
        refine X_iconst (v := (-1)) Γ d_I_leastOf_23 (by decide) rfl ?_
        exact X_ireti Γ d_I_leastOf_24 E.symm rfl
      · replace E := E.trans (if_neg h4)
        refine X_iload_n Γ d_I_leastOf_7 rfl 0 rfl rfl ?_
        refine X_iload_n Γ d_I_leastOf_8 rfl 1 rfl rfl ?_
        refine X_callSi (rest := []) Γ d_I_leastOf_9 (m_I_contains l D _ _ _ _ hJ _ _ x1 v1_2) w429 w256 w1 w257 e_I_contains ⟨by decide, by decide⟩ ⟨rfl, rfl⟩ rfl rfl (Nat.le_of_ble_eq_true rfl) rfl ?_
        refine X_if_eq (tgt := 17) Γ d_I_leastOf_12 (by decide) rfl (fun h12 => ?_) (fun h12 => ?_)
        · replace E := E.trans (if_pos h12)
          refine X_iinc (v := (v1_2 + 1)) Γ d_I_leastOf_17 1 rfl rfl (by decide) rfl rfl ?_
          refine X_goto (pc' := 2) Γ d_I_leastOf_20 (by decide) ?_
          refine X_loc [1, 0] rfl ?_
          exact ih2 (v1_2 + 1) (lc_step (by decide) (by decide) hI2.1 hI2.2.1 hI2.2.2 h4) E
        · replace E := E.trans (if_neg h12)
          refine X_iload_n Γ d_I_leastOf_15 rfl 1 rfl rfl ?_
          exact X_ireti Γ d_I_leastOf_16 E.symm rfl
  refine X_loc [1, 0] rfl ?_
  exact J2 5 0 (⟨by decide, by decide, by decide⟩) E
def f_Int_bitCount (x1 : Int32) : Int32 := ((((((((x1 - (((x1.toUInt32 >>> ((1 : Int32).toUInt32 &&& Int32.toUInt32 31)).toInt32) &&& 1431655765)) &&& 858993459) + ((((x1 - (((x1.toUInt32 >>> ((1 : Int32).toUInt32 &&& Int32.toUInt32 31)).toInt32) &&& 1431655765)).toUInt32 >>> ((2 : Int32).toUInt32 &&& Int32.toUInt32 31)).toInt32) &&& 858993459)) + (((((x1 - (((x1.toUInt32 >>> ((1 : Int32).toUInt32 &&& Int32.toUInt32 31)).toInt32) &&& 1431655765)) &&& 858993459) + ((((x1 - (((x1.toUInt32 >>> ((1 : Int32).toUInt32 &&& Int32.toUInt32 31)).toInt32) &&& 1431655765)).toUInt32 >>> ((2 : Int32).toUInt32 &&& Int32.toUInt32 31)).toInt32) &&& 858993459)).toUInt32 >>> ((4 : Int32).toUInt32 &&& Int32.toUInt32 31)).toInt32)) &&& 252645135) + (((((((x1 - (((x1.toUInt32 >>> ((1 : Int32).toUInt32 &&& Int32.toUInt32 31)).toInt32) &&& 1431655765)) &&& 858993459) + ((((x1 - (((x1.toUInt32 >>> ((1 : Int32).toUInt32 &&& Int32.toUInt32 31)).toInt32) &&& 1431655765)).toUInt32 >>> ((2 : Int32).toUInt32 &&& Int32.toUInt32 31)).toInt32) &&& 858993459)) + (((((x1 - (((x1.toUInt32 >>> ((1 : Int32).toUInt32 &&& Int32.toUInt32 31)).toInt32) &&& 1431655765)) &&& 858993459) + ((((x1 - (((x1.toUInt32 >>> ((1 : Int32).toUInt32 &&& Int32.toUInt32 31)).toInt32) &&& 1431655765)).toUInt32 >>> ((2 : Int32).toUInt32 &&& Int32.toUInt32 31)).toInt32) &&& 858993459)).toUInt32 >>> ((4 : Int32).toUInt32 &&& Int32.toUInt32 31)).toInt32)) &&& 252645135).toUInt32 >>> ((8 : Int32).toUInt32 &&& Int32.toUInt32 31)).toInt32)) + ((((((((x1 - (((x1.toUInt32 >>> ((1 : Int32).toUInt32 &&& Int32.toUInt32 31)).toInt32) &&& 1431655765)) &&& 858993459) + ((((x1 - (((x1.toUInt32 >>> ((1 : Int32).toUInt32 &&& Int32.toUInt32 31)).toInt32) &&& 1431655765)).toUInt32 >>> ((2 : Int32).toUInt32 &&& Int32.toUInt32 31)).toInt32) &&& 858993459)) + (((((x1 - (((x1.toUInt32 >>> ((1 : Int32).toUInt32 &&& Int32.toUInt32 31)).toInt32) &&& 1431655765)) &&& 858993459) + ((((x1 - (((x1.toUInt32 >>> ((1 : Int32).toUInt32 &&& Int32.toUInt32 31)).toInt32) &&& 1431655765)).toUInt32 >>> ((2 : Int32).toUInt32 &&& Int32.toUInt32 31)).toInt32) &&& 858993459)).toUInt32 >>> ((4 : Int32).toUInt32 &&& Int32.toUInt32 31)).toInt32)) &&& 252645135) + (((((((x1 - (((x1.toUInt32 >>> ((1 : Int32).toUInt32 &&& Int32.toUInt32 31)).toInt32) &&& 1431655765)) &&& 858993459) + ((((x1 - (((x1.toUInt32 >>> ((1 : Int32).toUInt32 &&& Int32.toUInt32 31)).toInt32) &&& 1431655765)).toUInt32 >>> ((2 : Int32).toUInt32 &&& Int32.toUInt32 31)).toInt32) &&& 858993459)) + (((((x1 - (((x1.toUInt32 >>> ((1 : Int32).toUInt32 &&& Int32.toUInt32 31)).toInt32) &&& 1431655765)) &&& 858993459) + ((((x1 - (((x1.toUInt32 >>> ((1 : Int32).toUInt32 &&& Int32.toUInt32 31)).toInt32) &&& 1431655765)).toUInt32 >>> ((2 : Int32).toUInt32 &&& Int32.toUInt32 31)).toInt32) &&& 858993459)).toUInt32 >>> ((4 : Int32).toUInt32 &&& Int32.toUInt32 31)).toInt32)) &&& 252645135).toUInt32 >>> ((8 : Int32).toUInt32 &&& Int32.toUInt32 31)).toInt32)).toUInt32 >>> ((16 : Int32).toUInt32 &&& Int32.toUInt32 31)).toInt32)) &&& 63)
theorem e_Int_bitCount : y_Int_bitCount.cls ≠ "java/lang/invoke/MethodHandle" ∧ y_Int_bitCount.cls ≠ "java/lang/invoke/VarHandle" ∧ (parseMethodDescriptor y_Int_bitCount.desc).map (fun d => d.parameters.length) = some 1 := by decide +kernel
set_option maxHeartbeats 4000000 in
set_option maxRecDepth 100000 in
theorem m_Int_bitCount (l : Launch) (D : va_G) (cl : List vw_C) (tys : List (ClassId × FieldType)) (N : Nat) (a : Nat → Nat) (hJ : xJ N a) (K : Nat → (Nat → Int32) → va_E) (G : Nat → Nat → Int32) (x1 : Int32) : Met l y_Int_bitCount (Cond.code y_Int_bitCount prog_9_method_49_code 1 (Option.some FieldType.int) :: wsBig) { frames := 0, cells := 0, slots := 0, locals := 0 } (xP D cl tys N a (kg K G) [.int x1]) (xQi D cl N a (f_Int_bitCount x1) (kg K G)) 0 0 (xA N a) := by
  refine X_met (by decide) rfl (Nat.le_of_ble_eq_true rfl) hJ (fun Y s m args Γ => ?_)
  show X Y s m D cl N a 1 (kg K G) 0 [(0, .int x1)] []
  have E := f_Int_bitCount.eq_1 x1
  refine X_iload_n Γ d_Int_bitCount_0 rfl 0 rfl rfl ?_
  refine X_iload_n Γ d_Int_bitCount_1 rfl 0 rfl rfl ?_
  refine X_iconst (v := 1) Γ d_Int_bitCount_2 (by decide) rfl ?_
  refine X_iushr (v := (x1.toUInt32 >>> ((1 : Int32).toUInt32 &&& Int32.toUInt32 31)).toInt32) Γ d_Int_bitCount_3 rfl rfl ?_
  refine X_ldcw (v := 1431655765) Γ d_Int_bitCount_4 w243 rfl ?_
  refine X_iand Γ d_Int_bitCount_7 rfl ?_
  refine X_isub Γ d_Int_bitCount_8 rfl ?_
  refine X_istore_n Γ d_Int_bitCount_9 rfl (by decide) rfl rfl ?_
  refine X_iload_n Γ d_Int_bitCount_10 rfl 0 rfl rfl ?_
  refine X_ldcw (v := 858993459) Γ d_Int_bitCount_11 w244 rfl ?_
  refine X_iand Γ d_Int_bitCount_14 rfl ?_
  refine X_iload_n Γ d_Int_bitCount_15 rfl 0 rfl rfl ?_
  refine X_iconst (v := 2) Γ d_Int_bitCount_16 (by decide) rfl ?_
  refine X_iushr (v := ((x1 - (((x1.toUInt32 >>> ((1 : Int32).toUInt32 &&& Int32.toUInt32 31)).toInt32) &&& 1431655765)).toUInt32 >>> ((2 : Int32).toUInt32 &&& Int32.toUInt32 31)).toInt32) Γ d_Int_bitCount_17 rfl rfl ?_
  refine X_ldcw (v := 858993459) Γ d_Int_bitCount_18 w244 rfl ?_
  refine X_iand Γ d_Int_bitCount_21 rfl ?_
  refine X_iadd Γ d_Int_bitCount_22 rfl ?_
  refine X_istore_n Γ d_Int_bitCount_23 rfl (by decide) rfl rfl ?_
  refine X_iload_n Γ d_Int_bitCount_24 rfl 0 rfl rfl ?_
  refine X_iload_n Γ d_Int_bitCount_25 rfl 0 rfl rfl ?_
  refine X_iconst (v := 4) Γ d_Int_bitCount_26 (by decide) rfl ?_
  refine X_iushr (v := ((((x1 - (((x1.toUInt32 >>> ((1 : Int32).toUInt32 &&& Int32.toUInt32 31)).toInt32) &&& 1431655765)) &&& 858993459) + ((((x1 - (((x1.toUInt32 >>> ((1 : Int32).toUInt32 &&& Int32.toUInt32 31)).toInt32) &&& 1431655765)).toUInt32 >>> ((2 : Int32).toUInt32 &&& Int32.toUInt32 31)).toInt32) &&& 858993459)).toUInt32 >>> ((4 : Int32).toUInt32 &&& Int32.toUInt32 31)).toInt32) Γ d_Int_bitCount_27 rfl rfl ?_
  refine X_iadd Γ d_Int_bitCount_28 rfl ?_
  refine X_ldcw (v := 252645135) Γ d_Int_bitCount_29 w245 rfl ?_
  refine X_iand Γ d_Int_bitCount_32 rfl ?_
  refine X_istore_n Γ d_Int_bitCount_33 rfl (by decide) rfl rfl ?_
  refine X_iload_n Γ d_Int_bitCount_34 rfl 0 rfl rfl ?_
  refine X_iload_n Γ d_Int_bitCount_35 rfl 0 rfl rfl ?_
  refine X_bipush (v := 8) Γ d_Int_bitCount_36 (by decide) rfl ?_
  refine X_iushr (v := ((((((x1 - (((x1.toUInt32 >>> ((1 : Int32).toUInt32 &&& Int32.toUInt32 31)).toInt32) &&& 1431655765)) &&& 858993459) + ((((x1 - (((x1.toUInt32 >>> ((1 : Int32).toUInt32 &&& Int32.toUInt32 31)).toInt32) &&& 1431655765)).toUInt32 >>> ((2 : Int32).toUInt32 &&& Int32.toUInt32 31)).toInt32) &&& 858993459)) + (((((x1 - (((x1.toUInt32 >>> ((1 : Int32).toUInt32 &&& Int32.toUInt32 31)).toInt32) &&& 1431655765)) &&& 858993459) + ((((x1 - (((x1.toUInt32 >>> ((1 : Int32).toUInt32 &&& Int32.toUInt32 31)).toInt32) &&& 1431655765)).toUInt32 >>> ((2 : Int32).toUInt32 &&& Int32.toUInt32 31)).toInt32) &&& 858993459)).toUInt32 >>> ((4 : Int32).toUInt32 &&& Int32.toUInt32 31)).toInt32)) &&& 252645135).toUInt32 >>> ((8 : Int32).toUInt32 &&& Int32.toUInt32 31)).toInt32) Γ d_Int_bitCount_38 rfl rfl ?_
  refine X_iadd Γ d_Int_bitCount_39 rfl ?_
  refine X_istore_n Γ d_Int_bitCount_40 rfl (by decide) rfl rfl ?_
  refine X_iload_n Γ d_Int_bitCount_41 rfl 0 rfl rfl ?_
  refine X_iload_n Γ d_Int_bitCount_42 rfl 0 rfl rfl ?_
  refine X_bipush (v := 16) Γ d_Int_bitCount_43 (by decide) rfl ?_
  refine X_iushr (v := (((((((x1 - (((x1.toUInt32 >>> ((1 : Int32).toUInt32 &&& Int32.toUInt32 31)).toInt32) &&& 1431655765)) &&& 858993459) + ((((x1 - (((x1.toUInt32 >>> ((1 : Int32).toUInt32 &&& Int32.toUInt32 31)).toInt32) &&& 1431655765)).toUInt32 >>> ((2 : Int32).toUInt32 &&& Int32.toUInt32 31)).toInt32) &&& 858993459)) + (((((x1 - (((x1.toUInt32 >>> ((1 : Int32).toUInt32 &&& Int32.toUInt32 31)).toInt32) &&& 1431655765)) &&& 858993459) + ((((x1 - (((x1.toUInt32 >>> ((1 : Int32).toUInt32 &&& Int32.toUInt32 31)).toInt32) &&& 1431655765)).toUInt32 >>> ((2 : Int32).toUInt32 &&& Int32.toUInt32 31)).toInt32) &&& 858993459)).toUInt32 >>> ((4 : Int32).toUInt32 &&& Int32.toUInt32 31)).toInt32)) &&& 252645135) + (((((((x1 - (((x1.toUInt32 >>> ((1 : Int32).toUInt32 &&& Int32.toUInt32 31)).toInt32) &&& 1431655765)) &&& 858993459) + ((((x1 - (((x1.toUInt32 >>> ((1 : Int32).toUInt32 &&& Int32.toUInt32 31)).toInt32) &&& 1431655765)).toUInt32 >>> ((2 : Int32).toUInt32 &&& Int32.toUInt32 31)).toInt32) &&& 858993459)) + (((((x1 - (((x1.toUInt32 >>> ((1 : Int32).toUInt32 &&& Int32.toUInt32 31)).toInt32) &&& 1431655765)) &&& 858993459) + ((((x1 - (((x1.toUInt32 >>> ((1 : Int32).toUInt32 &&& Int32.toUInt32 31)).toInt32) &&& 1431655765)).toUInt32 >>> ((2 : Int32).toUInt32 &&& Int32.toUInt32 31)).toInt32) &&& 858993459)).toUInt32 >>> ((4 : Int32).toUInt32 &&& Int32.toUInt32 31)).toInt32)) &&& 252645135).toUInt32 >>> ((8 : Int32).toUInt32 &&& Int32.toUInt32 31)).toInt32)).toUInt32 >>> ((16 : Int32).toUInt32 &&& Int32.toUInt32 31)).toInt32) Γ d_Int_bitCount_45 rfl rfl ?_
  refine X_iadd Γ d_Int_bitCount_46 rfl ?_
  refine X_istore_n Γ d_Int_bitCount_47 rfl (by decide) rfl rfl ?_
  refine X_iload_n Γ d_Int_bitCount_48 rfl 0 rfl rfl ?_
  refine X_bipush (v := 63) Γ d_Int_bitCount_49 (by decide) rfl ?_
  refine X_iand Γ d_Int_bitCount_51 rfl ?_
  exact X_ireti Γ d_Int_bitCount_52 E.symm rfl
def f_Arr_fill_5 (n1_ : Nat) (len : Nat) (x2 : Int32) (G : Nat → Nat → Int32) : Nat → Int32 → (Nat → Nat → Int32) → (Nat → Nat → Int32)
  | 0, v2_5, Gv5 => Gv5
  | k5 + 1, v2_5, Gv5 => (if (nI len) ≤ v2_5 then Gv5 else (f_Arr_fill_5 n1_ len x2 G k5 (v2_5 + 1) (g2 Gv5 n1_ v2_5.toNatClampNeg x2)))
def f_Arr_fill (n1_ : Nat) (len : Nat) (x2 : Int32) (G : Nat → Nat → Int32) : (Nat → Nat → Int32) := (f_Arr_fill_5 n1_ len x2 G (len + 1) 0 G)
theorem e_Arr_fill : y_Arr_fill.cls ≠ "java/lang/invoke/MethodHandle" ∧ y_Arr_fill.cls ≠ "java/lang/invoke/VarHandle" ∧ (parseMethodDescriptor y_Arr_fill.desc).map (fun d => d.parameters.length) = some 2 := by decide +kernel
set_option maxHeartbeats 4000000 in
set_option maxRecDepth 100000 in
theorem m_Arr_fill (l : Launch) (D : va_G) (cl : List vw_C) (tys : List (ClassId × FieldType)) (N : Nat) (a : Nat → Nat) (hJ : xJ N a) (K : Nat → (Nat → Int32) → va_E) (G : Nat → Nat → Int32) (n1_ len : Nat) (cA : ClassId) (hn0 : n1_ < N) (hk0 : ∀ f, K n1_ f = .inl (cA, len, .inl f)) (hty : tys[0]? = some (cA, .int)) (x2 : Int32) (hl : len < 1000) : Met l y_Arr_fill (Cond.code y_Arr_fill prog_11_method_103_code 4 (Option.none : Option FieldType) :: wsBig) { frames := 0, cells := 0, slots := 0, locals := 0 } (xP D cl tys N a (kg K G) [.ref (a n1_), .int x2]) (xQv D cl N a (kg K (f_Arr_fill n1_ len x2 G))) 0 0 (xA N a) := by
  refine X_met (by decide) rfl (Nat.le_of_ble_eq_true rfl) hJ (fun Y s m args Γ => ?_)
  show X Y s m D cl N a 4 (kg K G) 0 [(0, .ref (a n1_)), (1, .int x2)] []
  have E := f_Arr_fill.eq_1 n1_ len x2 G
  refine X_iconst (v := 0) Γ d_Arr_fill_0 (by decide) rfl ?_
  refine X_istore_n Γ d_Arr_fill_1 rfl (by decide) rfl rfl ?_
  refine X_aload_n Γ d_Arr_fill_2 rfl 1 rfl rfl ?_
  refine X_alen (v := nI len) Γ d_Arr_fill_3 hn0 (hk0 _) 0 hty rfl rfl ?_
  refine X_istore_n Γ d_Arr_fill_4 rfl (by decide) rfl rfl ?_
  have J5 : ∀ (k5 : Nat) (v2_5 : Int32) (Gv5 : Nat → Nat → Int32), (0 < k5 ∧ k5 ≤ len + 1 ∧ v2_5 = nI (len + 1 - k5)) → f_Arr_fill n1_ len x2 G = f_Arr_fill_5 n1_ len x2 G k5 v2_5 Gv5 → X Y s m D cl N a 4 (kg K Gv5) 5 [(0, .ref (a n1_)), (1, .int x2), (2, .int v2_5), (3, .int (nI len))] [] := by
    intro k5
    induction k5 with
    | zero => exact fun v2_5 Gv5 hI5 _ => absurd hI5 (fun h => Nat.lt_irrefl 0 h.1)
    | succ k5 ih5 =>
      intro v2_5 Gv5 hI5 E
      rw [f_Arr_fill_5] at E
      refine X_iload_n Γ d_Arr_fill_5 rfl 2 rfl rfl ?_
      refine X_iload_n Γ d_Arr_fill_6 rfl 3 rfl rfl ?_
      refine X_icmp_ge (tgt := 20) Γ d_Arr_fill_7 (by decide) rfl (fun h7 => ?_) (fun h7 => ?_)
      · replace E := E.trans (if_pos h7)
        exact X_vret Γ d_Arr_fill_20 (gv_eq E)
      · replace E := E.trans (if_neg h7)
        refine X_aload_n Γ d_Arr_fill_10 rfl 0 rfl rfl ?_
        refine X_iload_n Γ d_Arr_fill_11 rfl 2 rfl rfl ?_
        refine X_iload_n Γ d_Arr_fill_12 rfl 1 rfl rfl ?_
        refine X_iast (kx := v2_5.toNatClampNeg) Γ d_Arr_fill_13 hn0 (hk0 _) 0 hty (fl_in hl hI5 h7) (fun _ => (hk0 _)) rfl rfl ?_
        refine X_iinc (v := (v2_5 + 1)) Γ d_Arr_fill_14 2 rfl rfl (by decide) rfl rfl ?_
        refine X_goto (pc' := 5) Γ d_Arr_fill_17 (by decide) ?_
        refine X_loc [1, 2, 0, 3] rfl ?_
        exact ih5 (v2_5 + 1) (g2 Gv5 n1_ v2_5.toNatClampNeg x2) (fl_step hl hI5 h7) E
  refine X_loc [2, 3, 1, 0] rfl ?_
  exact J5 (len + 1) 0 G (⟨Nat.succ_pos _, Nat.le_refl _, by rw [Nat.sub_self]; rfl⟩) E
theorem isB_in {x : Int32} (h : ¬ f_I_isBroker x = 0) : vp_in x 4 := by
  unfold f_I_isBroker at h
  by_cases h1 : x < 0
  · rw [if_pos h1] at h; exact absurd rfl h
  · rw [if_neg h1] at h
    by_cases h2 : 4 ≤ x
    · rw [if_pos h2] at h; exact absurd rfl h
    · rw [i_lt, i0] at h1
      rw [i_le, i4] at h2
      rw [vp_in_iff]
      omega
theorem isB_of {x : Int32} (h : vp_in x 4) : f_I_isBroker x = 1 := by
  rw [vp_in_iff] at h
  unfold f_I_isBroker
  rw [if_neg (by rw [i_lt, i0]; omega), if_neg (by rw [i_le, i4]; omega)]
end
section
def f_L_has (n : Nat) (x1 : Int32) (G : Nat → Nat → Int32) : Int32 := (if x1 < 0 then 0 else (if (G n 2) ≤ x1 then 0 else 1))
theorem e_L_has : y_L_has.cls ≠ "java/lang/invoke/MethodHandle" ∧ y_L_has.cls ≠ "java/lang/invoke/VarHandle" ∧ (parseMethodDescriptor y_L_has.desc).map (fun d => d.parameters.length) = some 1 := by decide +kernel
set_option maxHeartbeats 4000000 in
set_option maxRecDepth 100000 in
theorem m_L_has (l : Launch) (D : va_G) (cI cZ cB cM : ClassId) (a : Nat → Nat) (hJ : xJ 56 a) (P : Nat → Nat) (G : Nat → Nat → Int32) (n : Nat) (n_1 : 6 ≤ n) (n_2 : n < 10) (x1 : Int32) : Met l y_L_has (Cond.code y_L_has prog_5_method_2_code 2 (Option.some FieldType.boolean) :: wsBig) { frames := 0, cells := 0, slots := 0, locals := 0 } (xP D xcl (xty cI cZ cB cM) 56 a (kg (kC cI cB cM a P) G) [.ref (a n), .int x1]) (xQi D xcl 56 a (f_L_has n x1 G) (kg (kC cI cB cM a P) G)) 0 0 (xA 56 a) := by
  refine X_met (by decide) rfl (Nat.le_of_ble_eq_true rfl) hJ (fun Y s m args Γ => ?_)
  show X Y s m D xcl 56 a 2 (kg (kC cI cB cM a P) G) 0 [(0, .ref (a n)), (1, .int x1)] []
  have E := f_L_has.eq_1 n x1 G
  refine X_iload_n Γ d_L_has_0 rfl 1 rfl rfl ?_
  refine X_if_lt (tgt := 16) Γ d_L_has_1 (by decide) rfl (fun h1 => ?_) (fun h1 => ?_)
  · replace E := E.trans (if_pos h1)
    refine X_iconst (v := 0) Γ d_L_has_16 (by decide) rfl ?_
    exact X_iretz Γ d_L_has_17 rfl E.symm rfl
  · replace E := E.trans (if_neg h1)
    refine X_iload_n Γ d_L_has_4 rfl 1 rfl rfl ?_
    refine X_aload_n Γ d_L_has_5 rfl 0 rfl rfl ?_
    refine X_get Γ d_L_has_6 (Nat.lt_of_lt_of_le n_2 (by decide : 10 ≤ 56)) (kC_L n_1 n_2) rfl in_L 2 (by decide) w135 rfl rfl rfl ?_
    refine X_icmp_ge (tgt := 16) Γ d_L_has_9 (by decide) rfl (fun h9 => ?_) (fun h9 => ?_)
    · replace E := E.trans (if_pos h9)
      refine X_iconst (v := 0) Γ d_L_has_16 (by decide) rfl ?_
      exact X_iretz Γ d_L_has_17 rfl E.symm rfl
    · replace E := E.trans (if_neg h9)
      refine X_iconst (v := 1) Γ d_L_has_12 (by decide) rfl ?_
      refine X_goto (pc' := 17) Γ d_L_has_13 (by decide) ?_
      exact X_iretz Γ d_L_has_17 rfl E.symm rfl
def f_L_isFull (n : Nat) (G : Nat → Nat → Int32) : Int32 := (if (G n 2) < 40 then 0 else 1)
theorem e_L_isFull : y_L_isFull.cls ≠ "java/lang/invoke/MethodHandle" ∧ y_L_isFull.cls ≠ "java/lang/invoke/VarHandle" ∧ (parseMethodDescriptor y_L_isFull.desc).map (fun d => d.parameters.length) = some 0 := by decide +kernel
set_option maxHeartbeats 4000000 in
set_option maxRecDepth 100000 in
theorem m_L_isFull (l : Launch) (D : va_G) (cI cZ cB cM : ClassId) (a : Nat → Nat) (hJ : xJ 56 a) (P : Nat → Nat) (G : Nat → Nat → Int32) (n : Nat) (n_1 : 6 ≤ n) (n_2 : n < 10) : Met l y_L_isFull (Cond.code y_L_isFull prog_5_method_3_code 1 (Option.some FieldType.boolean) :: wsBig) { frames := 0, cells := 0, slots := 0, locals := 0 } (xP D xcl (xty cI cZ cB cM) 56 a (kg (kC cI cB cM a P) G) [.ref (a n)]) (xQi D xcl 56 a (f_L_isFull n G) (kg (kC cI cB cM a P) G)) 0 0 (xA 56 a) := by
  refine X_met (by decide) rfl (Nat.le_of_ble_eq_true rfl) hJ (fun Y s m args Γ => ?_)
  show X Y s m D xcl 56 a 1 (kg (kC cI cB cM a P) G) 0 [(0, .ref (a n))] []
  have E := f_L_isFull.eq_1 n G
  refine X_aload_n Γ d_L_isFull_0 rfl 0 rfl rfl ?_
  refine X_get Γ d_L_isFull_1 (Nat.lt_of_lt_of_le n_2 (by decide : 10 ≤ 56)) (kC_L n_1 n_2) rfl in_L 2 (by decide) w135 rfl rfl rfl ?_
  refine X_bipush (v := 40) Γ d_L_isFull_4 (by decide) rfl ?_
  refine X_icmp_lt (tgt := 13) Γ d_L_isFull_6 (by decide) rfl (fun h6 => ?_) (fun h6 => ?_)
  · replace E := E.trans (if_pos h6)
    refine X_iconst (v := 0) Γ d_L_isFull_13 (by decide) rfl ?_
    exact X_iretz Γ d_L_isFull_14 rfl E.symm rfl
  · replace E := E.trans (if_neg h6)
    refine X_iconst (v := 1) Γ d_L_isFull_9 (by decide) rfl ?_
    refine X_goto (pc' := 14) Γ d_L_isFull_10 (by decide) ?_
    exact X_iretz Γ d_L_isFull_14 rfl E.symm rfl
/-! A log's end is in range. -/
def okL (G : Nat → Nat → Int32) (n : Nat) : Prop := 0 ≤ (G n 2).toInt ∧ (G n 2).toInt ≤ 40
theorem okL_of {G G' : Nat → Nat → Int32} {n : Nat} (h : okL G n) (e : G' n = G n) : okL G' n := by
  unfold okL
  rw [e]
  exact h
theorem okL_g2 {G : Nat → Nat → Int32} {n m k : Nat} {v : Int32} (h : okL G n) (hne : n ≠ m) : okL (g2 G m k v) n := okL_of h (g2_ne G k v hne)
theorem has_in {n : Nat} {x : Int32} {G : Nat → Nat → Int32} (hE : okL G n) (h : ¬ f_L_has n x G = 0) : vp_in x 40 := by
  unfold f_L_has at h
  by_cases h1 : x < 0
  · rw [if_pos h1] at h; exact absurd rfl h
  · rw [if_neg h1] at h
    by_cases h2 : G n 2 ≤ x
    · rw [if_pos h2] at h; exact absurd rfl h
    · rw [i_lt, i0] at h1
      rw [i_le] at h2
      rw [vp_in_iff]
      have := hE.2
      omega
theorem full_in {n : Nat} {G : Nat → Nat → Int32} (hE : okL G n) (h : f_L_isFull n G = 0) : vp_in (G n 2) 40 := by
  unfold f_L_isFull at h
  by_cases h1 : G n 2 < 40
  · rw [i_lt, i40] at h1
    rw [vp_in_iff]
    have := hE.1
    omega
  · rw [if_neg h1] at h
    exact absurd h (by decide)
theorem cu_lt {n : Nat} {v : Int32} {G : Nat → Nat → Int32} (hE : okL G n) (h : ¬ G n 2 ≤ v) : ¬ (41 : Int32) ≤ v := by
  rw [i_le] at h
  rw [i_le, i41]
  have := hE.2
  omega
def f_L_stampOf (n : Nat) (x1 : Int32) (G : Nat → Nat → Int32) : Int32 := (if ((f_L_has n x1 G)) = 0 then 0 else (G (n + 4) x1.toNatClampNeg))
theorem e_L_stampOf : y_L_stampOf.cls ≠ "java/lang/invoke/MethodHandle" ∧ y_L_stampOf.cls ≠ "java/lang/invoke/VarHandle" ∧ (parseMethodDescriptor y_L_stampOf.desc).map (fun d => d.parameters.length) = some 1 := by decide +kernel
set_option maxHeartbeats 4000000 in
set_option maxRecDepth 100000 in
theorem m_L_stampOf (l : Launch) (D : va_G) (cI cZ cB cM : ClassId) (a : Nat → Nat) (hJ : xJ 56 a) (P : Nat → Nat) (G : Nat → Nat → Int32) (n : Nat) (n_1 : 6 ≤ n) (n_2 : n < 10) (x1 : Int32) (hE : okL G n) : Met l y_L_stampOf (Cond.code y_L_stampOf prog_5_method_5_code 2 (Option.some FieldType.int) :: wsBig) { frames := 1, cells := 0, slots := 0, locals := 21 } (xP D xcl (xty cI cZ cB cM) 56 a (kg (kC cI cB cM a P) G) [.ref (a n), .int x1]) (xQi D xcl 56 a (f_L_stampOf n x1 G) (kg (kC cI cB cM a P) G)) 0 0 (xA 56 a) := by
  refine X_met (by decide) rfl (Nat.le_of_ble_eq_true rfl) hJ (fun Y s m args Γ => ?_)
  show X Y s m D xcl 56 a 2 (kg (kC cI cB cM a P) G) 0 [(0, .ref (a n)), (1, .int x1)] []
  have E := f_L_stampOf.eq_1 n x1 G
  refine X_aload_n Γ d_L_stampOf_0 rfl 0 rfl rfl ?_
  refine X_iload_n Γ d_L_stampOf_1 rfl 1 rfl rfl ?_
  refine X_callVi (rest := []) Γ d_L_stampOf_2 (m_L_has l D cI cZ cB cM a hJ P G n n_1 n_2 x1) (Nat.lt_of_lt_of_le n_2 (by decide : 10 ≤ 56)) (kC_L n_1 n_2) rfl rfl w280 w270 s_L_has w7 w271 e_L_has ⟨by decide, by decide⟩ ⟨rfl, rfl⟩ rfl rfl (Nat.le_of_ble_eq_true rfl) rfl ?_
  refine X_if_eq (tgt := 17) Γ d_L_stampOf_5 (by decide) rfl (fun h5 => ?_) (fun h5 => ?_)
  · replace E := E.trans (if_pos h5)
    refine X_iconst (v := 0) Γ d_L_stampOf_17 (by decide) rfl ?_
    exact X_ireti Γ d_L_stampOf_18 E.symm rfl
  · replace E := E.trans (if_neg h5)
    refine X_aload_n Γ d_L_stampOf_8 rfl 0 rfl rfl ?_
    refine X_get Γ d_L_stampOf_9 (Nat.lt_of_lt_of_le n_2 (by decide : 10 ≤ 56)) (kC_L n_1 n_2) rfl in_L 0 (by decide) w133 rfl rfl rfl ?_
    refine X_iload_n Γ d_L_stampOf_12 rfl 1 rfl rfl ?_
    refine X_iald (v := (G (n + 4) x1.toNatClampNeg)) Γ d_L_stampOf_13 (Nat.lt_of_lt_of_le (Nat.lt_of_lt_of_le (Nat.add_lt_add_right n_2 4) (by decide : 10 + 4 ≤ 18)) (by decide : 18 ≤ 56)) (kC_A40 (Nat.le_trans (by decide : 10 ≤ 6 + 4) (Nat.add_le_add_right n_1 4)) (Nat.lt_of_lt_of_le (Nat.add_lt_add_right n_2 4) (by decide : 10 + 4 ≤ 18))) 0 rfl (has_in hE h5) rfl rfl ?_
    refine X_goto (pc' := 18) Γ d_L_stampOf_14 (by decide) ?_
    exact X_ireti Γ d_L_stampOf_18 E.symm rfl
def f_L_valueOf (n : Nat) (x1 : Int32) (G : Nat → Nat → Int32) : Int32 := (if ((f_L_has n x1 G)) = 0 then 0 else (G (n + 8) x1.toNatClampNeg))
theorem e_L_valueOf : y_L_valueOf.cls ≠ "java/lang/invoke/MethodHandle" ∧ y_L_valueOf.cls ≠ "java/lang/invoke/VarHandle" ∧ (parseMethodDescriptor y_L_valueOf.desc).map (fun d => d.parameters.length) = some 1 := by decide +kernel
set_option maxHeartbeats 4000000 in
set_option maxRecDepth 100000 in
theorem m_L_valueOf (l : Launch) (D : va_G) (cI cZ cB cM : ClassId) (a : Nat → Nat) (hJ : xJ 56 a) (P : Nat → Nat) (G : Nat → Nat → Int32) (n : Nat) (n_1 : 6 ≤ n) (n_2 : n < 10) (x1 : Int32) (hE : okL G n) : Met l y_L_valueOf (Cond.code y_L_valueOf prog_5_method_7_code 2 (Option.some FieldType.int) :: wsBig) { frames := 1, cells := 0, slots := 0, locals := 21 } (xP D xcl (xty cI cZ cB cM) 56 a (kg (kC cI cB cM a P) G) [.ref (a n), .int x1]) (xQi D xcl 56 a (f_L_valueOf n x1 G) (kg (kC cI cB cM a P) G)) 0 0 (xA 56 a) := by
  refine X_met (by decide) rfl (Nat.le_of_ble_eq_true rfl) hJ (fun Y s m args Γ => ?_)
  show X Y s m D xcl 56 a 2 (kg (kC cI cB cM a P) G) 0 [(0, .ref (a n)), (1, .int x1)] []
  have E := f_L_valueOf.eq_1 n x1 G
  refine X_aload_n Γ d_L_valueOf_0 rfl 0 rfl rfl ?_
  refine X_iload_n Γ d_L_valueOf_1 rfl 1 rfl rfl ?_
  refine X_callVi (rest := []) Γ d_L_valueOf_2 (m_L_has l D cI cZ cB cM a hJ P G n n_1 n_2 x1) (Nat.lt_of_lt_of_le n_2 (by decide : 10 ≤ 56)) (kC_L n_1 n_2) rfl rfl w280 w270 s_L_has w7 w271 e_L_has ⟨by decide, by decide⟩ ⟨rfl, rfl⟩ rfl rfl (Nat.le_of_ble_eq_true rfl) rfl ?_
  refine X_if_eq (tgt := 17) Γ d_L_valueOf_5 (by decide) rfl (fun h5 => ?_) (fun h5 => ?_)
  · replace E := E.trans (if_pos h5)
    refine X_iconst (v := 0) Γ d_L_valueOf_17 (by decide) rfl ?_
    exact X_ireti Γ d_L_valueOf_18 E.symm rfl
  · replace E := E.trans (if_neg h5)
    refine X_aload_n Γ d_L_valueOf_8 rfl 0 rfl rfl ?_
    refine X_get Γ d_L_valueOf_9 (Nat.lt_of_lt_of_le n_2 (by decide : 10 ≤ 56)) (kC_L n_1 n_2) rfl in_L 1 (by decide) w134 rfl rfl rfl ?_
    refine X_iload_n Γ d_L_valueOf_12 rfl 1 rfl rfl ?_
    refine X_iald (v := (G (n + 8) x1.toNatClampNeg)) Γ d_L_valueOf_13 (Nat.lt_of_lt_of_le (Nat.lt_of_lt_of_le (Nat.add_lt_add_right n_2 8) (by decide : 10 + 8 ≤ 18)) (by decide : 18 ≤ 56)) (kC_A40 (Nat.le_trans (by decide : 10 ≤ 6 + 8) (Nat.add_le_add_right n_1 8)) (Nat.lt_of_lt_of_le (Nat.add_lt_add_right n_2 8) (by decide : 10 + 8 ≤ 18))) 0 rfl (has_in hE h5) rfl rfl ?_
    refine X_goto (pc' := 18) Γ d_L_valueOf_14 (by decide) ?_
    exact X_ireti Γ d_L_valueOf_18 E.symm rfl
def f_L_isMark (n : Nat) (x1 : Int32) (G : Nat → Nat → Int32) : Int32 := (if 0 ≤ ((f_L_stampOf n x1 G)) then 0 else 1)
theorem e_L_isMark : y_L_isMark.cls ≠ "java/lang/invoke/MethodHandle" ∧ y_L_isMark.cls ≠ "java/lang/invoke/VarHandle" ∧ (parseMethodDescriptor y_L_isMark.desc).map (fun d => d.parameters.length) = some 1 := by decide +kernel
set_option maxHeartbeats 4000000 in
set_option maxRecDepth 100000 in
theorem m_L_isMark (l : Launch) (D : va_G) (cI cZ cB cM : ClassId) (a : Nat → Nat) (hJ : xJ 56 a) (P : Nat → Nat) (G : Nat → Nat → Int32) (n : Nat) (n_1 : 6 ≤ n) (n_2 : n < 10) (x1 : Int32) (hE : okL G n) : Met l y_L_isMark (Cond.code y_L_isMark prog_5_method_4_code 2 (Option.some FieldType.boolean) :: wsBig) { frames := 2, cells := 0, slots := 0, locals := 42 } (xP D xcl (xty cI cZ cB cM) 56 a (kg (kC cI cB cM a P) G) [.ref (a n), .int x1]) (xQi D xcl 56 a (f_L_isMark n x1 G) (kg (kC cI cB cM a P) G)) 0 0 (xA 56 a) := by
  refine X_met (by decide) rfl (Nat.le_of_ble_eq_true rfl) hJ (fun Y s m args Γ => ?_)
  show X Y s m D xcl 56 a 2 (kg (kC cI cB cM a P) G) 0 [(0, .ref (a n)), (1, .int x1)] []
  have E := f_L_isMark.eq_1 n x1 G
  refine X_aload_n Γ d_L_isMark_0 rfl 0 rfl rfl ?_
  refine X_iload_n Γ d_L_isMark_1 rfl 1 rfl rfl ?_
  refine X_callVi (rest := []) Γ d_L_isMark_2 (m_L_stampOf l D cI cZ cB cM a hJ P G n n_1 n_2 x1 hE) (Nat.lt_of_lt_of_le n_2 (by decide : 10 ≤ 56)) (kC_L n_1 n_2) rfl rfl w276 w278 s_L_stampOf w7 w279 e_L_stampOf ⟨by decide, by decide⟩ ⟨rfl, rfl⟩ rfl rfl (Nat.le_of_ble_eq_true rfl) rfl ?_
  refine X_if_ge (tgt := 12) Γ d_L_isMark_5 (by decide) rfl (fun h5 => ?_) (fun h5 => ?_)
  · replace E := E.trans (if_pos h5)
    refine X_iconst (v := 0) Γ d_L_isMark_12 (by decide) rfl ?_
    exact X_iretz Γ d_L_isMark_13 rfl E.symm rfl
  · replace E := E.trans (if_neg h5)
    refine X_iconst (v := 1) Γ d_L_isMark_8 (by decide) rfl ?_
    refine X_goto (pc' := 13) Γ d_L_isMark_9 (by decide) ?_
    exact X_iretz Γ d_L_isMark_13 rfl E.symm rfl
def f_L_epochOf (n : Nat) (x1 : Int32) (G : Nat → Nat → Int32) : Int32 := (if 0 ≤ ((f_L_stampOf n x1 G)) then ((f_L_stampOf n x1 G)) else 0 - ((f_L_stampOf n x1 G)))
theorem e_L_epochOf : y_L_epochOf.cls ≠ "java/lang/invoke/MethodHandle" ∧ y_L_epochOf.cls ≠ "java/lang/invoke/VarHandle" ∧ (parseMethodDescriptor y_L_epochOf.desc).map (fun d => d.parameters.length) = some 1 := by decide +kernel
set_option maxHeartbeats 4000000 in
set_option maxRecDepth 100000 in
theorem m_L_epochOf (l : Launch) (D : va_G) (cI cZ cB cM : ClassId) (a : Nat → Nat) (hJ : xJ 56 a) (P : Nat → Nat) (G : Nat → Nat → Int32) (n : Nat) (n_1 : 6 ≤ n) (n_2 : n < 10) (x1 : Int32) (hE : okL G n) : Met l y_L_epochOf (Cond.code y_L_epochOf prog_5_method_6_code 2 (Option.some FieldType.int) :: wsBig) { frames := 2, cells := 0, slots := 0, locals := 42 } (xP D xcl (xty cI cZ cB cM) 56 a (kg (kC cI cB cM a P) G) [.ref (a n), .int x1]) (xQi D xcl 56 a (f_L_epochOf n x1 G) (kg (kC cI cB cM a P) G)) 0 0 (xA 56 a) := by
  refine X_met (by decide) rfl (Nat.le_of_ble_eq_true rfl) hJ (fun Y s m args Γ => ?_)
  show X Y s m D xcl 56 a 2 (kg (kC cI cB cM a P) G) 0 [(0, .ref (a n)), (1, .int x1)] []
  have E := f_L_epochOf.eq_1 n x1 G
  refine X_aload_n Γ d_L_epochOf_0 rfl 0 rfl rfl ?_
  refine X_iload_n Γ d_L_epochOf_1 rfl 1 rfl rfl ?_
  refine X_callVi (rest := []) Γ d_L_epochOf_2 (m_L_stampOf l D cI cZ cB cM a hJ P G n n_1 n_2 x1 hE) (Nat.lt_of_lt_of_le n_2 (by decide : 10 ≤ 56)) (kC_L n_1 n_2) rfl rfl w276 w278 s_L_stampOf w7 w279 e_L_stampOf ⟨by decide, by decide⟩ ⟨rfl, rfl⟩ rfl rfl (Nat.le_of_ble_eq_true rfl) rfl ?_
  refine X_mabs Γ d_L_epochOf_5 w305 w306 w2 w307 (by decide) (Nat.le_of_ble_eq_true rfl) rfl ?_
  exact X_ireti Γ d_L_epochOf_8 E.symm rfl
def f_L_lastEpoch (n : Nat) (G : Nat → Nat → Int32) : Int32 := ((f_L_epochOf n ((G n 2) - 1) G))
theorem e_L_lastEpoch : y_L_lastEpoch.cls ≠ "java/lang/invoke/MethodHandle" ∧ y_L_lastEpoch.cls ≠ "java/lang/invoke/VarHandle" ∧ (parseMethodDescriptor y_L_lastEpoch.desc).map (fun d => d.parameters.length) = some 0 := by decide +kernel
set_option maxHeartbeats 4000000 in
set_option maxRecDepth 100000 in
theorem m_L_lastEpoch (l : Launch) (D : va_G) (cI cZ cB cM : ClassId) (a : Nat → Nat) (hJ : xJ 56 a) (P : Nat → Nat) (G : Nat → Nat → Int32) (n : Nat) (n_1 : 6 ≤ n) (n_2 : n < 10) (hE : okL G n) : Met l y_L_lastEpoch (Cond.code y_L_lastEpoch prog_5_method_8_code 1 (Option.some FieldType.int) :: wsBig) { frames := 3, cells := 0, slots := 0, locals := 63 } (xP D xcl (xty cI cZ cB cM) 56 a (kg (kC cI cB cM a P) G) [.ref (a n)]) (xQi D xcl 56 a (f_L_lastEpoch n G) (kg (kC cI cB cM a P) G)) 0 0 (xA 56 a) := by
  refine X_met (by decide) rfl (Nat.le_of_ble_eq_true rfl) hJ (fun Y s m args Γ => ?_)
  show X Y s m D xcl 56 a 1 (kg (kC cI cB cM a P) G) 0 [(0, .ref (a n))] []
  have E := f_L_lastEpoch.eq_1 n G
  refine X_aload_n Γ d_L_lastEpoch_0 rfl 0 rfl rfl ?_
  refine X_aload_n Γ d_L_lastEpoch_1 rfl 0 rfl rfl ?_
  refine X_get Γ d_L_lastEpoch_2 (Nat.lt_of_lt_of_le n_2 (by decide : 10 ≤ 56)) (kC_L n_1 n_2) rfl in_L 2 (by decide) w135 rfl rfl rfl ?_
  refine X_iconst (v := 1) Γ d_L_lastEpoch_5 (by decide) rfl ?_
  refine X_isub Γ d_L_lastEpoch_6 rfl ?_
  refine X_callVi (rest := []) Γ d_L_lastEpoch_7 (m_L_epochOf l D cI cZ cB cM a hJ P G n n_1 n_2 ((G n 2) - 1) hE) (Nat.lt_of_lt_of_le n_2 (by decide : 10 ≤ 56)) (kC_L n_1 n_2) rfl rfl w301 w303 s_L_epochOf w7 w304 e_L_epochOf ⟨by decide, by decide⟩ ⟨rfl, rfl⟩ rfl rfl (Nat.le_of_ble_eq_true rfl) rfl ?_
  exact X_ireti Γ d_L_lastEpoch_10 E.symm rfl
def f_L_add (n : Nat) (x1 : Int32) (x2 : Int32) (G : Nat → Nat → Int32) : (Nat → Nat → Int32) := (if ((f_L_isFull n G)) = 0 then (g2 (g2 (g2 G (n + 4) (G n 2).toNatClampNeg x1) (n + 8) ((g2 G (n + 4) (G n 2).toNatClampNeg x1) n 2).toNatClampNeg x2) n 2 (((g2 (g2 G (n + 4) (G n 2).toNatClampNeg x1) (n + 8) ((g2 G (n + 4) (G n 2).toNatClampNeg x1) n 2).toNatClampNeg x2) n 2) + 1)) else G)
theorem e_L_add : y_L_add.cls ≠ "java/lang/invoke/MethodHandle" ∧ y_L_add.cls ≠ "java/lang/invoke/VarHandle" ∧ (parseMethodDescriptor y_L_add.desc).map (fun d => d.parameters.length) = some 2 := by decide +kernel
set_option maxHeartbeats 4000000 in
set_option maxRecDepth 100000 in
theorem m_L_add (l : Launch) (D : va_G) (cI cZ cB cM : ClassId) (a : Nat → Nat) (hJ : xJ 56 a) (P : Nat → Nat) (G : Nat → Nat → Int32) (n : Nat) (n_1 : 6 ≤ n) (n_2 : n < 10) (x1 : Int32) (x2 : Int32) (hE : okL G n) : Met l y_L_add (Cond.code y_L_add prog_5_method_9_code 3 (Option.none : Option FieldType) :: wsBig) { frames := 1, cells := 0, slots := 0, locals := 20 } (xP D xcl (xty cI cZ cB cM) 56 a (kg (kC cI cB cM a P) G) [.ref (a n), .int x1, .int x2]) (xQv D xcl 56 a (kg (kC cI cB cM a P) (f_L_add n x1 x2 G))) 0 0 (xA 56 a) := by
  refine X_met (by decide) rfl (Nat.le_of_ble_eq_true rfl) hJ (fun Y s m args Γ => ?_)
  show X Y s m D xcl 56 a 3 (kg (kC cI cB cM a P) G) 0 [(0, .ref (a n)), (1, .int x1), (2, .int x2)] []
  have E := f_L_add.eq_1 n x1 x2 G
  refine X_aload_n Γ d_L_add_0 rfl 0 rfl rfl ?_
  refine X_callVi (rest := []) Γ d_L_add_1 (m_L_isFull l D cI cZ cB cM a hJ P G n n_1 n_2) (Nat.lt_of_lt_of_le n_2 (by decide : 10 ≤ 56)) (kC_L n_1 n_2) rfl rfl w250 w238 s_L_isFull w7 w239 e_L_isFull ⟨by decide, by decide⟩ ⟨rfl, rfl⟩ rfl rfl (Nat.le_of_ble_eq_true rfl) rfl ?_
  refine X_if_eq (tgt := 8) Γ d_L_add_4 (by decide) rfl (fun h4 => ?_) (fun h4 => ?_)
  · replace E := E.trans (if_pos h4)
    refine X_aload_n Γ d_L_add_8 rfl 0 rfl rfl ?_
    refine X_get Γ d_L_add_9 (Nat.lt_of_lt_of_le n_2 (by decide : 10 ≤ 56)) (kC_L n_1 n_2) rfl in_L 0 (by decide) w133 rfl rfl rfl ?_
    refine X_aload_n Γ d_L_add_12 rfl 0 rfl rfl ?_
    refine X_get Γ d_L_add_13 (Nat.lt_of_lt_of_le n_2 (by decide : 10 ≤ 56)) (kC_L n_1 n_2) rfl in_L 2 (by decide) w135 rfl rfl rfl ?_
    refine X_iload_n Γ d_L_add_16 rfl 1 rfl rfl ?_
    refine X_iast (kx := (G n 2).toNatClampNeg) Γ d_L_add_17 (Nat.lt_of_lt_of_le (Nat.lt_of_lt_of_le (Nat.add_lt_add_right n_2 4) (by decide : 10 + 4 ≤ 18)) (by decide : 18 ≤ 56)) (kC_A40 (Nat.le_trans (by decide : 10 ≤ 6 + 4) (Nat.add_le_add_right n_1 4)) (Nat.lt_of_lt_of_le (Nat.add_lt_add_right n_2 4) (by decide : 10 + 4 ≤ 18))) 0 rfl (full_in hE h4) (fun _ => (kC_A40 (Nat.le_trans (by decide : 10 ≤ 6 + 4) (Nat.add_le_add_right n_1 4)) (Nat.lt_of_lt_of_le (Nat.add_lt_add_right n_2 4) (by decide : 10 + 4 ≤ 18)))) rfl rfl ?_
    refine X_aload_n Γ d_L_add_18 rfl 0 rfl rfl ?_
    refine X_get Γ d_L_add_19 (Nat.lt_of_lt_of_le n_2 (by decide : 10 ≤ 56)) (kC_L n_1 n_2) rfl in_L 1 (by decide) w134 rfl rfl rfl ?_
    refine X_aload_n Γ d_L_add_22 rfl 0 rfl rfl ?_
    refine X_get Γ d_L_add_23 (Nat.lt_of_lt_of_le n_2 (by decide : 10 ≤ 56)) (kC_L n_1 n_2) rfl in_L 2 (by decide) w135 rfl rfl rfl ?_
    refine X_iload_n Γ d_L_add_26 rfl 2 rfl rfl ?_
    refine X_iast (kx := ((g2 G (n + 4) (G n 2).toNatClampNeg x1) n 2).toNatClampNeg) Γ d_L_add_27 (Nat.lt_of_lt_of_le (Nat.lt_of_lt_of_le (Nat.add_lt_add_right n_2 8) (by decide : 10 + 8 ≤ 18)) (by decide : 18 ≤ 56)) (kC_A40 (Nat.le_trans (by decide : 10 ≤ 6 + 8) (Nat.add_le_add_right n_1 8)) (Nat.lt_of_lt_of_le (Nat.add_lt_add_right n_2 8) (by decide : 10 + 8 ≤ 18))) 0 rfl (by rw [g2_ne _ _ _ (by omega)]; exact full_in hE h4) (fun _ => (kC_A40 (Nat.le_trans (by decide : 10 ≤ 6 + 8) (Nat.add_le_add_right n_1 8)) (Nat.lt_of_lt_of_le (Nat.add_lt_add_right n_2 8) (by decide : 10 + 8 ≤ 18)))) rfl rfl ?_
    refine X_aload_n Γ d_L_add_28 rfl 0 rfl rfl ?_
    refine X_dup Γ d_L_add_29 rfl rfl ?_
    refine X_get Γ d_L_add_30 (Nat.lt_of_lt_of_le n_2 (by decide : 10 ≤ 56)) (kC_L n_1 n_2) rfl in_L 2 (by decide) w135 rfl rfl rfl ?_
    refine X_iconst (v := 1) Γ d_L_add_33 (by decide) rfl ?_
    refine X_iadd Γ d_L_add_34 rfl ?_
    refine X_put (ty := .int) Γ d_L_add_35 (Nat.lt_of_lt_of_le n_2 (by decide : 10 ≤ 56)) (kC_L n_1 n_2) rfl in_L 2 (by decide) w135 rfl ty_L ty_L_ok nm_L rfl (by decide +kernel) rfl rfl (Nat.le_of_ble_eq_true rfl) (kp_L_2 n_1 n_2) rfl ?_
    exact X_vret Γ d_L_add_38 (gv_eq E)
  · replace E := E.trans (if_neg h4)
    exact X_vret Γ d_L_add_7 (gv_eq E)
def f_L_cutTo (n : Nat) (x1 : Int32) (G : Nat → Nat → Int32) : (Nat → Nat → Int32) := (g2 G n 2 (if x1 < (G n 2) then x1 else (G n 2)))
theorem e_L_cutTo : y_L_cutTo.cls ≠ "java/lang/invoke/MethodHandle" ∧ y_L_cutTo.cls ≠ "java/lang/invoke/VarHandle" ∧ (parseMethodDescriptor y_L_cutTo.desc).map (fun d => d.parameters.length) = some 1 := by decide +kernel
set_option maxHeartbeats 4000000 in
set_option maxRecDepth 100000 in
theorem m_L_cutTo (l : Launch) (D : va_G) (cI cZ cB cM : ClassId) (a : Nat → Nat) (hJ : xJ 56 a) (P : Nat → Nat) (G : Nat → Nat → Int32) (n : Nat) (n_1 : 6 ≤ n) (n_2 : n < 10) (x1 : Int32) : Met l y_L_cutTo (Cond.code y_L_cutTo prog_5_method_10_code 2 (Option.none : Option FieldType) :: wsBig) { frames := 1, cells := 0, slots := 0, locals := 21 } (xP D xcl (xty cI cZ cB cM) 56 a (kg (kC cI cB cM a P) G) [.ref (a n), .int x1]) (xQv D xcl 56 a (kg (kC cI cB cM a P) (f_L_cutTo n x1 G))) 0 0 (xA 56 a) := by
  refine X_met (by decide) rfl (Nat.le_of_ble_eq_true rfl) hJ (fun Y s m args Γ => ?_)
  show X Y s m D xcl 56 a 2 (kg (kC cI cB cM a P) G) 0 [(0, .ref (a n)), (1, .int x1)] []
  have E := f_L_cutTo.eq_1 n x1 G
  refine X_aload_n Γ d_L_cutTo_0 rfl 0 rfl rfl ?_
  refine X_aload_n Γ d_L_cutTo_1 rfl 0 rfl rfl ?_
  refine X_get Γ d_L_cutTo_2 (Nat.lt_of_lt_of_le n_2 (by decide : 10 ≤ 56)) (kC_L n_1 n_2) rfl in_L 2 (by decide) w135 rfl rfl rfl ?_
  refine X_iload_n Γ d_L_cutTo_5 rfl 1 rfl rfl ?_
  refine X_mmin Γ d_L_cutTo_6 w370 w23 w2 w24 (by decide) (Nat.le_of_ble_eq_true rfl) rfl ?_
  refine X_put (ty := .int) Γ d_L_cutTo_9 (Nat.lt_of_lt_of_le n_2 (by decide : 10 ≤ 56)) (kC_L n_1 n_2) rfl in_L 2 (by decide) w135 rfl ty_L ty_L_ok nm_L rfl (by decide +kernel) rfl rfl (Nat.le_of_ble_eq_true rfl) (kp_L_2 n_1 n_2) rfl ?_
  exact X_vret Γ d_L_cutTo_12 (gv_eq E)
def f_L_continues (n : Nat) (x1 : Int32) (x2 : Int32) (G : Nat → Nat → Int32) : Int32 := (if x1 = 0 then 1 else (if (G n 2) < x1 then 0 else (if ((f_L_epochOf n (x1 - 1) G)) = x2 then 1 else 0)))
theorem e_L_continues : y_L_continues.cls ≠ "java/lang/invoke/MethodHandle" ∧ y_L_continues.cls ≠ "java/lang/invoke/VarHandle" ∧ (parseMethodDescriptor y_L_continues.desc).map (fun d => d.parameters.length) = some 2 := by decide +kernel
set_option maxHeartbeats 4000000 in
set_option maxRecDepth 100000 in
theorem m_L_continues (l : Launch) (D : va_G) (cI cZ cB cM : ClassId) (a : Nat → Nat) (hJ : xJ 56 a) (P : Nat → Nat) (G : Nat → Nat → Int32) (n : Nat) (n_1 : 6 ≤ n) (n_2 : n < 10) (x1 : Int32) (x2 : Int32) (hE : okL G n) : Met l y_L_continues (Cond.code y_L_continues prog_5_method_11_code 3 (Option.some FieldType.boolean) :: wsBig) { frames := 3, cells := 0, slots := 0, locals := 63 } (xP D xcl (xty cI cZ cB cM) 56 a (kg (kC cI cB cM a P) G) [.ref (a n), .int x1, .int x2]) (xQi D xcl 56 a (f_L_continues n x1 x2 G) (kg (kC cI cB cM a P) G)) 0 0 (xA 56 a) := by
  refine X_met (by decide) rfl (Nat.le_of_ble_eq_true rfl) hJ (fun Y s m args Γ => ?_)
  show X Y s m D xcl 56 a 3 (kg (kC cI cB cM a P) G) 0 [(0, .ref (a n)), (1, .int x1), (2, .int x2)] []
  have E := f_L_continues.eq_1 n x1 x2 G
  refine X_iload_n Γ d_L_continues_0 rfl 1 rfl rfl ?_
  refine X_if_eq (tgt := 23) Γ d_L_continues_1 (by decide) rfl (fun h1 => ?_) (fun h1 => ?_)
  · replace E := E.trans (if_pos h1)
    refine X_iconst (v := 1) Γ d_L_continues_23 (by decide) rfl ?_
    refine X_goto (pc' := 28) Γ d_L_continues_24 (by decide) ?_
    exact X_iretz Γ d_L_continues_28 rfl E.symm rfl
  · replace E := E.trans (if_neg h1)
    refine X_iload_n Γ d_L_continues_4 rfl 1 rfl rfl ?_
    refine X_aload_n Γ d_L_continues_5 rfl 0 rfl rfl ?_
    refine X_get Γ d_L_continues_6 (Nat.lt_of_lt_of_le n_2 (by decide : 10 ≤ 56)) (kC_L n_1 n_2) rfl in_L 2 (by decide) w135 rfl rfl rfl ?_
    refine X_icmp_gt (tgt := 27) Γ d_L_continues_9 (by decide) rfl (fun h9 => ?_) (fun h9 => ?_)
    · replace E := E.trans (if_pos h9)
      refine X_iconst (v := 0) Γ d_L_continues_27 (by decide) rfl ?_
      exact X_iretz Γ d_L_continues_28 rfl E.symm rfl
    · replace E := E.trans (if_neg h9)
      refine X_aload_n Γ d_L_continues_12 rfl 0 rfl rfl ?_
      refine X_iload_n Γ d_L_continues_13 rfl 1 rfl rfl ?_
      refine X_iconst (v := 1) Γ d_L_continues_14 (by decide) rfl ?_
      refine X_isub Γ d_L_continues_15 rfl ?_
      refine X_callVi (rest := []) Γ d_L_continues_16 (m_L_epochOf l D cI cZ cB cM a hJ P G n n_1 n_2 (x1 - 1) hE) (Nat.lt_of_lt_of_le n_2 (by decide : 10 ≤ 56)) (kC_L n_1 n_2) rfl rfl w301 w303 s_L_epochOf w7 w304 e_L_epochOf ⟨by decide, by decide⟩ ⟨rfl, rfl⟩ rfl rfl (Nat.le_of_ble_eq_true rfl) rfl ?_
      refine X_iload_n Γ d_L_continues_19 rfl 2 rfl rfl ?_
      refine X_icmp_ne (tgt := 27) Γ d_L_continues_20 (by decide) rfl (fun h20 => ?_) (fun h20 => ?_)
      · replace E := E.trans (if_neg h20)
        refine X_iconst (v := 0) Γ d_L_continues_27 (by decide) rfl ?_
        exact X_iretz Γ d_L_continues_28 rfl E.symm rfl
      · replace E := E.trans (if_pos h20)
        refine X_iconst (v := 1) Γ d_L_continues_23 (by decide) rfl ?_
        refine X_goto (pc' := 28) Γ d_L_continues_24 (by decide) ?_
        exact X_iretz Γ d_L_continues_28 rfl E.symm rfl
def f_L_countUpTo_2 (n : Nat) (x1 : Int32) (G : Nat → Nat → Int32) : Nat → Int32 → Int32
  | 0, v2_2 => 0
  | k2 + 1, v2_2 => (if (G n 2) ≤ v2_2 then v2_2 else (if x1 < ((f_L_epochOf n v2_2 G)) then v2_2 else (f_L_countUpTo_2 n x1 G k2 (v2_2 + 1))))
def f_L_countUpTo (n : Nat) (x1 : Int32) (G : Nat → Nat → Int32) : Int32 := (f_L_countUpTo_2 n x1 G 42 0)
theorem e_L_countUpTo : y_L_countUpTo.cls ≠ "java/lang/invoke/MethodHandle" ∧ y_L_countUpTo.cls ≠ "java/lang/invoke/VarHandle" ∧ (parseMethodDescriptor y_L_countUpTo.desc).map (fun d => d.parameters.length) = some 1 := by decide +kernel
set_option maxHeartbeats 4000000 in
set_option maxRecDepth 100000 in
theorem m_L_countUpTo (l : Launch) (D : va_G) (cI cZ cB cM : ClassId) (a : Nat → Nat) (hJ : xJ 56 a) (P : Nat → Nat) (G : Nat → Nat → Int32) (n : Nat) (n_1 : 6 ≤ n) (n_2 : n < 10) (x1 : Int32) (hE : okL G n) : Met l y_L_countUpTo (Cond.code y_L_countUpTo prog_5_method_12_code 3 (Option.some FieldType.int) :: wsBig) { frames := 3, cells := 0, slots := 0, locals := 63 } (xP D xcl (xty cI cZ cB cM) 56 a (kg (kC cI cB cM a P) G) [.ref (a n), .int x1]) (xQi D xcl 56 a (f_L_countUpTo n x1 G) (kg (kC cI cB cM a P) G)) 0 0 (xA 56 a) := by
  refine X_met (by decide) rfl (Nat.le_of_ble_eq_true rfl) hJ (fun Y s m args Γ => ?_)
  show X Y s m D xcl 56 a 3 (kg (kC cI cB cM a P) G) 0 [(0, .ref (a n)), (1, .int x1)] []
  have E := f_L_countUpTo.eq_1 n x1 G
  refine X_iconst (v := 0) Γ d_L_countUpTo_0 (by decide) rfl ?_
  refine X_istore_n Γ d_L_countUpTo_1 rfl (by decide) rfl rfl ?_
  have J2 : ∀ (k2 : Nat) (v2_2 : Int32), (0 < k2 ∧ k2 ≤ 42 ∧ v2_2 = nI (42 - k2)) → f_L_countUpTo n x1 G = f_L_countUpTo_2 n x1 G k2 v2_2 → X Y s m D xcl 56 a 3 (kg (kC cI cB cM a P) G) 2 [(0, .ref (a n)), (1, .int x1), (2, .int v2_2)] [] := by
    intro k2
    induction k2 with
    | zero => exact fun v2_2 hI2 _ => absurd hI2 (fun h => Nat.lt_irrefl 0 h.1)
    | succ k2 ih2 =>
      intro v2_2 hI2 E
      rw [f_L_countUpTo_2] at E
      refine X_iload_n Γ d_L_countUpTo_2 rfl 2 rfl rfl ?_
      refine X_aload_n Γ d_L_countUpTo_3 rfl 0 rfl rfl ?_
      refine X_get Γ d_L_countUpTo_4 (Nat.lt_of_lt_of_le n_2 (by decide : 10 ≤ 56)) (kC_L n_1 n_2) rfl in_L 2 (by decide) w135 rfl rfl rfl ?_
      refine X_icmp_ge (tgt := 25) Γ d_L_countUpTo_7 (by decide) rfl (fun h7 => ?_) (fun h7 => ?_)
      · replace E := E.trans (if_pos h7)
        refine X_iload_n Γ d_L_countUpTo_25 rfl 2 rfl rfl ?_
        exact X_ireti Γ d_L_countUpTo_26 E.symm rfl
      · replace E := E.trans (if_neg h7)
        refine X_aload_n Γ d_L_countUpTo_10 rfl 0 rfl rfl ?_
        refine X_iload_n Γ d_L_countUpTo_11 rfl 2 rfl rfl ?_
        refine X_callVi (rest := []) Γ d_L_countUpTo_12 (m_L_epochOf l D cI cZ cB cM a hJ P G n n_1 n_2 v2_2 hE) (Nat.lt_of_lt_of_le n_2 (by decide : 10 ≤ 56)) (kC_L n_1 n_2) rfl rfl w301 w303 s_L_epochOf w7 w304 e_L_epochOf ⟨by decide, by decide⟩ ⟨rfl, rfl⟩ rfl rfl (Nat.le_of_ble_eq_true rfl) rfl ?_
        refine X_iload_n Γ d_L_countUpTo_15 rfl 1 rfl rfl ?_
        refine X_icmp_gt (tgt := 25) Γ d_L_countUpTo_16 (by decide) rfl (fun h16 => ?_) (fun h16 => ?_)
        · replace E := E.trans (if_pos h16)
          refine X_iload_n Γ d_L_countUpTo_25 rfl 2 rfl rfl ?_
          exact X_ireti Γ d_L_countUpTo_26 E.symm rfl
        · replace E := E.trans (if_neg h16)
          refine X_iinc (v := (v2_2 + 1)) Γ d_L_countUpTo_19 2 rfl rfl (by decide) rfl rfl ?_
          refine X_goto (pc' := 2) Γ d_L_countUpTo_22 (by decide) ?_
          refine X_loc [1, 2, 0] rfl ?_
          exact ih2 (v2_2 + 1) (lc_step (by decide) (by decide) hI2.1 hI2.2.1 hI2.2.2 (cu_lt hE h7)) E
  refine X_loc [1, 2, 0] rfl ?_
  exact J2 42 0 (⟨by decide, by decide, by decide⟩) E
theorem okL_add {n : Nat} {x1 x2 : Int32} {G : Nat → Nat → Int32} (hE : okL G n) : okL (f_L_add n x1 x2 G) n := by
  unfold f_L_add
  by_cases h : f_L_isFull n G = 0
  · have h2 := full_in hE h
    rw [vp_in_iff] at h2
    first | rw [if_pos h] | simp only [h, if_true]
    unfold okL
    rw [g2_at, g2_ne _ _ _ (by omega), g2_ne _ _ _ (by omega)]
    rw [i_add (by rw [i1]; omega) (by rw [i1]; omega), i1]
    omega
  · first | rw [if_neg h] | simp only [h, if_false]
    exact hE
/-- rows that a log's method leaves alone -/
theorem add_ne {n i : Nat} {x1 x2 : Int32} {G : Nat → Nat → Int32} (h0 : i ≠ n) (h1 : i ≠ n + 4) (h2 : i ≠ n + 8) : f_L_add n x1 x2 G i = G i := by
  unfold f_L_add
  by_cases h : f_L_isFull n G = 0
  · first | rw [if_pos h] | simp only [h, if_true]
    rw [g2_ne _ _ _ h0, g2_ne _ _ _ h2, g2_ne _ _ _ h1]
  · first | rw [if_neg h] | simp only [h, if_false]
end
section
def f_B_leads (n : Nat) (G : Nat → Nat → Int32) : Int32 := (if (G n 4) = 0 then 0 else (if (G n 6) = (G n 0) then 1 else 0))
theorem e_B_leads : y_B_leads.cls ≠ "java/lang/invoke/MethodHandle" ∧ y_B_leads.cls ≠ "java/lang/invoke/VarHandle" ∧ (parseMethodDescriptor y_B_leads.desc).map (fun d => d.parameters.length) = some 0 := by decide +kernel
set_option maxHeartbeats 4000000 in
set_option maxRecDepth 100000 in
theorem m_B_leads (l : Launch) (D : va_G) (cI cZ cB cM : ClassId) (a : Nat → Nat) (hJ : xJ 56 a) (P : Nat → Nat) (G : Nat → Nat → Int32) (n : Nat) (n_1 : 2 ≤ n) (n_2 : n < 6) : Met l y_B_leads (Cond.code y_B_leads prog_2_method_2_code 1 (Option.some FieldType.boolean) :: wsBig) { frames := 0, cells := 0, slots := 0, locals := 0 } (xP D xcl (xty cI cZ cB cM) 56 a (kg (kC cI cB cM a P) G) [.ref (a n)]) (xQi D xcl 56 a (f_B_leads n G) (kg (kC cI cB cM a P) G)) 0 0 (xA 56 a) := by
  refine X_met (by decide) rfl (Nat.le_of_ble_eq_true rfl) hJ (fun Y s m args Γ => ?_)
  show X Y s m D xcl 56 a 1 (kg (kC cI cB cM a P) G) 0 [(0, .ref (a n))] []
  have E := f_B_leads.eq_1 n G
  refine X_aload_n Γ d_B_leads_0 rfl 0 rfl rfl ?_
  refine X_get Γ d_B_leads_1 (Nat.lt_of_lt_of_le n_2 (by decide : 6 ≤ 56)) (kC_B n_1 n_2) rfl in_B 4 (by decide) w154 rfl rfl rfl ?_
  refine X_if_eq (tgt := 22) Γ d_B_leads_4 (by decide) rfl (fun h4 => ?_) (fun h4 => ?_)
  · replace E := E.trans (if_pos h4)
    refine X_iconst (v := 0) Γ d_B_leads_22 (by decide) rfl ?_
    exact X_iretz Γ d_B_leads_23 rfl E.symm rfl
  · replace E := E.trans (if_neg h4)
    refine X_aload_n Γ d_B_leads_7 rfl 0 rfl rfl ?_
    refine X_get Γ d_B_leads_8 (Nat.lt_of_lt_of_le n_2 (by decide : 6 ≤ 56)) (kC_B n_1 n_2) rfl in_B 6 (by decide) w159 rfl rfl rfl ?_
    refine X_aload_n Γ d_B_leads_11 rfl 0 rfl rfl ?_
    refine X_get Γ d_B_leads_12 (Nat.lt_of_lt_of_le n_2 (by decide : 6 ≤ 56)) (kC_B n_1 n_2) rfl in_B 0 (by decide) w148 rfl rfl rfl ?_
    refine X_icmp_ne (tgt := 22) Γ d_B_leads_15 (by decide) rfl (fun h15 => ?_) (fun h15 => ?_)
    · replace E := E.trans (if_neg h15)
      refine X_iconst (v := 0) Γ d_B_leads_22 (by decide) rfl ?_
      exact X_iretz Γ d_B_leads_23 rfl E.symm rfl
    · replace E := E.trans (if_pos h15)
      refine X_iconst (v := 1) Γ d_B_leads_18 (by decide) rfl ?_
      refine X_goto (pc' := 23) Γ d_B_leads_19 (by decide) ?_
      exact X_iretz Γ d_B_leads_23 rfl E.symm rfl
def f_B_fact (n : Nat) (x1 : Int32) (G : Nat → Nat → Int32) : Int32 := (if x1 = 0 then (if (G n 4) = 0 then 0 else 1) else (if x1 = 1 then (G n 5) else (if x1 = 2 then (G n 6) else (if x1 = 3 then (if ((f_B_leads n G)) = 0 then 0 else (G n 11)) else (if x1 = 4 then (G (n + 4) 2) else (if x1 = 5 then (G n 7) else (if x1 = 6 then (G n 8) else (-1))))))))
theorem e_B_fact : y_B_fact.cls ≠ "java/lang/invoke/MethodHandle" ∧ y_B_fact.cls ≠ "java/lang/invoke/VarHandle" ∧ (parseMethodDescriptor y_B_fact.desc).map (fun d => d.parameters.length) = some 1 := by decide +kernel
set_option maxHeartbeats 4000000 in
set_option maxRecDepth 100000 in
theorem m_B_fact (l : Launch) (D : va_G) (cI cZ cB cM : ClassId) (a : Nat → Nat) (hJ : xJ 56 a) (P : Nat → Nat) (G : Nat → Nat → Int32) (n : Nat) (n_1 : 2 ≤ n) (n_2 : n < 6) (x1 : Int32) : Met l y_B_fact (Cond.code y_B_fact prog_2_method_3_code 2 (Option.some FieldType.int) :: wsBig) { frames := 1, cells := 0, slots := 0, locals := 20 } (xP D xcl (xty cI cZ cB cM) 56 a (kg (kC cI cB cM a P) G) [.ref (a n), .int x1]) (xQi D xcl 56 a (f_B_fact n x1 G) (kg (kC cI cB cM a P) G)) 0 0 (xA 56 a) := by
  refine X_met (by decide) rfl (Nat.le_of_ble_eq_true rfl) hJ (fun Y s m args Γ => ?_)
  show X Y s m D xcl 56 a 2 (kg (kC cI cB cM a P) G) 0 [(0, .ref (a n)), (1, .int x1)] []
  have E := f_B_fact.eq_1 n x1 G
  refine X_iload_n Γ d_B_fact_0 rfl 1 rfl rfl ?_
  by_cases h1_0 : x1 = 0
  · replace E := E.trans (if_pos h1_0)
    refine X_tableIn (pc' := 44) (off := 43) Γ d_B_fact_1 h1_0 (by decide) (by decide) (by decide) (by decide) ?_
    refine X_aload_n Γ d_B_fact_44 rfl 0 rfl rfl ?_
    refine X_get Γ d_B_fact_45 (Nat.lt_of_lt_of_le n_2 (by decide : 6 ≤ 56)) (kC_B n_1 n_2) rfl in_B 4 (by decide) w154 rfl rfl rfl ?_
    refine X_if_eq (tgt := 55) Γ d_B_fact_48 (by decide) rfl (fun h48 => ?_) (fun h48 => ?_)
    · replace E := E.trans (if_pos h48)
      refine X_iconst (v := 0) Γ d_B_fact_55 (by decide) rfl ?_
      exact X_ireti Γ d_B_fact_56 E.symm rfl
    · replace E := E.trans (if_neg h48)
      refine X_iconst (v := 1) Γ d_B_fact_51 (by decide) rfl ?_
      refine X_goto (pc' := 56) Γ d_B_fact_52 (by decide) ?_
      exact X_ireti Γ d_B_fact_56 E.symm rfl
  replace E := E.trans (if_neg h1_0)
  by_cases h1_1 : x1 = 1
  · replace E := E.trans (if_pos h1_1)
    refine X_tableIn (pc' := 57) (off := 56) Γ d_B_fact_1 h1_1 (by decide) (by decide) (by decide) (by decide) ?_
    refine X_aload_n Γ d_B_fact_57 rfl 0 rfl rfl ?_
    refine X_get Γ d_B_fact_58 (Nat.lt_of_lt_of_le n_2 (by decide : 6 ≤ 56)) (kC_B n_1 n_2) rfl in_B 5 (by decide) w156 rfl rfl rfl ?_
    exact X_ireti Γ d_B_fact_61 E.symm rfl
  replace E := E.trans (if_neg h1_1)
  by_cases h1_2 : x1 = 2
  · replace E := E.trans (if_pos h1_2)
    refine X_tableIn (pc' := 62) (off := 61) Γ d_B_fact_1 h1_2 (by decide) (by decide) (by decide) (by decide) ?_
    refine X_aload_n Γ d_B_fact_62 rfl 0 rfl rfl ?_
    refine X_get Γ d_B_fact_63 (Nat.lt_of_lt_of_le n_2 (by decide : 6 ≤ 56)) (kC_B n_1 n_2) rfl in_B 6 (by decide) w159 rfl rfl rfl ?_
    exact X_ireti Γ d_B_fact_66 E.symm rfl
  replace E := E.trans (if_neg h1_2)
  by_cases h1_3 : x1 = 3
  · replace E := E.trans (if_pos h1_3)
    refine X_tableIn (pc' := 67) (off := 66) Γ d_B_fact_1 h1_3 (by decide) (by decide) (by decide) (by decide) ?_
    refine X_aload_n Γ d_B_fact_67 rfl 0 rfl rfl ?_
    refine X_callVi (rest := []) Γ d_B_fact_68 (m_B_leads l D cI cZ cB cM a hJ P G n n_1 n_2) (Nat.lt_of_lt_of_le n_2 (by decide : 6 ≤ 56)) (kC_B n_1 n_2) rfl rfl w364 w230 s_B_leads w6 w231 e_B_leads ⟨by decide, by decide⟩ ⟨rfl, rfl⟩ rfl rfl (Nat.le_of_ble_eq_true rfl) rfl ?_
    refine X_if_eq (tgt := 81) Γ d_B_fact_71 (by decide) rfl (fun h71 => ?_) (fun h71 => ?_)
    · replace E := E.trans (if_pos h71)
      refine X_iconst (v := 0) Γ d_B_fact_81 (by decide) rfl ?_
      exact X_ireti Γ d_B_fact_82 E.symm rfl
    · replace E := E.trans (if_neg h71)
      refine X_aload_n Γ d_B_fact_74 rfl 0 rfl rfl ?_
      refine X_get Γ d_B_fact_75 (Nat.lt_of_lt_of_le n_2 (by decide : 6 ≤ 56)) (kC_B n_1 n_2) rfl in_B 11 (by decide) w168 rfl rfl rfl ?_
      refine X_goto (pc' := 82) Γ d_B_fact_78 (by decide) ?_
      exact X_ireti Γ d_B_fact_82 E.symm rfl
  replace E := E.trans (if_neg h1_3)
  by_cases h1_4 : x1 = 4
  · replace E := E.trans (if_pos h1_4)
    refine X_tableIn (pc' := 83) (off := 82) Γ d_B_fact_1 h1_4 (by decide) (by decide) (by decide) (by decide) ?_
    refine X_aload_n Γ d_B_fact_83 rfl 0 rfl rfl ?_
    refine X_get Γ d_B_fact_84 (Nat.lt_of_lt_of_le n_2 (by decide : 6 ≤ 56)) (kC_B n_1 n_2) rfl in_B 1 (by decide) w150 rfl rfl rfl ?_
    refine X_getN Γ d_B_fact_87 (Nat.lt_of_lt_of_le (Nat.lt_of_lt_of_le (Nat.add_lt_add_right n_2 4) (by decide : 6 + 4 ≤ 10)) (by decide : 10 ≤ 56)) (kC_L (Nat.le_trans (by decide : 6 ≤ 2 + 4) (Nat.add_le_add_right n_1 4)) (Nat.lt_of_lt_of_le (Nat.add_lt_add_right n_2 4) (by decide : 6 + 4 ≤ 10))) rfl in_L 2 (by decide) w136 rfl rfl rfl ?_
    exact X_ireti Γ d_B_fact_90 E.symm rfl
  replace E := E.trans (if_neg h1_4)
  by_cases h1_5 : x1 = 5
  · replace E := E.trans (if_pos h1_5)
    refine X_tableIn (pc' := 91) (off := 90) Γ d_B_fact_1 h1_5 (by decide) (by decide) (by decide) (by decide) ?_
    refine X_aload_n Γ d_B_fact_91 rfl 0 rfl rfl ?_
    refine X_get Γ d_B_fact_92 (Nat.lt_of_lt_of_le n_2 (by decide : 6 ≤ 56)) (kC_B n_1 n_2) rfl in_B 7 (by decide) w161 rfl rfl rfl ?_
    exact X_ireti Γ d_B_fact_95 E.symm rfl
  replace E := E.trans (if_neg h1_5)
  by_cases h1_6 : x1 = 6
  · replace E := E.trans (if_pos h1_6)
    refine X_tableIn (pc' := 96) (off := 95) Γ d_B_fact_1 h1_6 (by decide) (by decide) (by decide) (by decide) ?_
    refine X_aload_n Γ d_B_fact_96 rfl 0 rfl rfl ?_
    refine X_get Γ d_B_fact_97 (Nat.lt_of_lt_of_le n_2 (by decide : 6 ≤ 56)) (kC_B n_1 n_2) rfl in_B 8 (by decide) w163 rfl rfl rfl ?_
    exact X_ireti Γ d_B_fact_100 E.symm rfl
  replace E := E.trans (if_neg h1_6)
  refine X_tableOut (pc' := 101) Γ d_B_fact_1 (tb_0_6 h1_0 h1_1 h1_2 h1_3 h1_4 h1_5 h1_6) (by decide) ?_
  refine X_iconst (v := (-1)) Γ d_B_fact_101 (by decide) rfl ?_
  exact X_ireti Γ d_B_fact_102 E.symm rfl
def f_B_goDown (n : Nat) (G : Nat → Nat → Int32) : (Nat → Nat → Int32) := (g2 (g2 (g2 (g2 G n 4 0) n 5 0) n 6 (-1)) n 9 0)
theorem e_B_goDown : y_B_goDown.cls ≠ "java/lang/invoke/MethodHandle" ∧ y_B_goDown.cls ≠ "java/lang/invoke/VarHandle" ∧ (parseMethodDescriptor y_B_goDown.desc).map (fun d => d.parameters.length) = some 0 := by decide +kernel
set_option maxHeartbeats 4000000 in
set_option maxRecDepth 100000 in
theorem m_B_goDown (l : Launch) (D : va_G) (cI cZ cB cM : ClassId) (a : Nat → Nat) (hJ : xJ 56 a) (P : Nat → Nat) (G : Nat → Nat → Int32) (n : Nat) (n_1 : 2 ≤ n) (n_2 : n < 6) : Met l y_B_goDown (Cond.code y_B_goDown prog_2_method_5_code 1 (Option.none : Option FieldType) :: wsBig) { frames := 0, cells := 0, slots := 0, locals := 0 } (xP D xcl (xty cI cZ cB cM) 56 a (kg (kC cI cB cM a P) G) [.ref (a n)]) (xQv D xcl 56 a (kg (kC cI cB cM a P) (f_B_goDown n G))) 0 0 (xA 56 a) := by
  refine X_met (by decide) rfl (Nat.le_of_ble_eq_true rfl) hJ (fun Y s m args Γ => ?_)
  show X Y s m D xcl 56 a 1 (kg (kC cI cB cM a P) G) 0 [(0, .ref (a n))] []
  have E := f_B_goDown.eq_1 n G
  refine X_aload_n Γ d_B_goDown_0 rfl 0 rfl rfl ?_
  refine X_iconst (v := 0) Γ d_B_goDown_1 (by decide) rfl ?_
  refine X_put (ty := .boolean) Γ d_B_goDown_2 (Nat.lt_of_lt_of_le n_2 (by decide : 6 ≤ 56)) (kC_B n_1 n_2) rfl in_B 4 (by decide) w154 rfl ty_B ty_B_ok nm_B rfl (by decide +kernel) rfl rfl (Nat.le_of_ble_eq_true rfl) (kp_B_4 n_1 n_2) rfl ?_
  refine X_aload_n Γ d_B_goDown_5 rfl 0 rfl rfl ?_
  refine X_iconst (v := 0) Γ d_B_goDown_6 (by decide) rfl ?_
  refine X_put (ty := .int) Γ d_B_goDown_7 (Nat.lt_of_lt_of_le n_2 (by decide : 6 ≤ 56)) (kC_B n_1 n_2) rfl in_B 5 (by decide) w156 rfl ty_B ty_B_ok nm_B rfl (by decide +kernel) rfl rfl (Nat.le_of_ble_eq_true rfl) (kp_B_5 n_1 n_2) rfl ?_
  refine X_aload_n Γ d_B_goDown_10 rfl 0 rfl rfl ?_
  refine X_iconst (v := (-1)) Γ d_B_goDown_11 (by decide) rfl ?_
  refine X_put (ty := .int) Γ d_B_goDown_12 (Nat.lt_of_lt_of_le n_2 (by decide : 6 ≤ 56)) (kC_B n_1 n_2) rfl in_B 6 (by decide) w159 rfl ty_B ty_B_ok nm_B rfl (by decide +kernel) rfl rfl (Nat.le_of_ble_eq_true rfl) (kp_B_6 n_1 n_2) rfl ?_
  refine X_aload_n Γ d_B_goDown_15 rfl 0 rfl rfl ?_
  refine X_iconst (v := 0) Γ d_B_goDown_16 (by decide) rfl ?_
  refine X_put (ty := .boolean) Γ d_B_goDown_17 (Nat.lt_of_lt_of_le n_2 (by decide : 6 ≤ 56)) (kC_B n_1 n_2) rfl in_B 9 (by decide) w165 rfl ty_B ty_B_ok nm_B rfl (by decide +kernel) rfl rfl (Nat.le_of_ble_eq_true rfl) (kp_B_9 n_1 n_2) rfl ?_
  exact X_vret Γ d_B_goDown_20 (gv_eq E)
def f_B_adopt (n : Nat) (x2 : Int32) (G : Nat → Nat → Int32) : (Nat → Nat → Int32) := (if ((f_B_leads n (g2 (g2 (g2 G n 5 (G 26 0)) n 6 ((g2 G n 5 (G 26 0)) 26 1)) n 9 0))) = 0 then (g2 (g2 (g2 G n 5 (G 26 0)) n 6 ((g2 G n 5 (G 26 0)) 26 1)) n 9 0) else ((f_Arr_fill (n + 20) 4 x2 ((f_Arr_fill (n + 16) 4 (-1) (g2 (g2 (g2 (g2 (g2 G n 5 (G 26 0)) n 6 ((g2 G n 5 (G 26 0)) 26 1)) n 9 0) n 10 ((g2 (g2 (g2 G n 5 (G 26 0)) n 6 ((g2 G n 5 (G 26 0)) 26 1)) n 9 0) (n + 4) 2)) n 11 ((g2 (g2 (g2 (g2 G n 5 (G 26 0)) n 6 ((g2 G n 5 (G 26 0)) 26 1)) n 9 0) n 10 ((g2 (g2 (g2 G n 5 (G 26 0)) n 6 ((g2 G n 5 (G 26 0)) 26 1)) n 9 0) (n + 4) 2)) 26 2)))))))
theorem e_B_adopt : y_B_adopt.cls ≠ "java/lang/invoke/MethodHandle" ∧ y_B_adopt.cls ≠ "java/lang/invoke/VarHandle" ∧ (parseMethodDescriptor y_B_adopt.desc).map (fun d => d.parameters.length) = some 2 := by decide +kernel
set_option maxHeartbeats 4000000 in
set_option maxRecDepth 100000 in
theorem m_B_adopt (l : Launch) (D : va_G) (cI cZ cB cM : ClassId) (a : Nat → Nat) (hJ : xJ 56 a) (P : Nat → Nat) (G : Nat → Nat → Int32) (n : Nat) (n_1 : 2 ≤ n) (n_2 : n < 6) (x2 : Int32) : Met l y_B_adopt (Cond.code y_B_adopt prog_2_method_4_code 3 (Option.none : Option FieldType) :: wsBig) { frames := 1, cells := 0, slots := 0, locals := 23 } (xP D xcl (xty cI cZ cB cM) 56 a (kg (kC cI cB cM a P) G) [.ref (a n), .ref (a 26), .int x2]) (xQv D xcl 56 a (kg (kC cI cB cM a P) (f_B_adopt n x2 G))) 0 0 (xA 56 a) := by
  refine X_met (by decide) rfl (Nat.le_of_ble_eq_true rfl) hJ (fun Y s m args Γ => ?_)
  show X Y s m D xcl 56 a 3 (kg (kC cI cB cM a P) G) 0 [(0, .ref (a n)), (1, .ref (a 26)), (2, .int x2)] []
  have E := f_B_adopt.eq_1 n x2 G
  refine X_aload_n Γ d_B_adopt_0 rfl 0 rfl rfl ?_
  refine X_aload_n Γ d_B_adopt_1 rfl 1 rfl rfl ?_
  refine X_getN Γ d_B_adopt_2 (by decide) kC_T rfl in_T 0 (by decide) w35 rfl rfl rfl ?_
  refine X_put (ty := .int) Γ d_B_adopt_5 (Nat.lt_of_lt_of_le n_2 (by decide : 6 ≤ 56)) (kC_B n_1 n_2) rfl in_B 5 (by decide) w156 rfl ty_B ty_B_ok nm_B rfl (by decide +kernel) rfl rfl (Nat.le_of_ble_eq_true rfl) (kp_B_5 n_1 n_2) rfl ?_
  refine X_aload_n Γ d_B_adopt_8 rfl 0 rfl rfl ?_
  refine X_aload_n Γ d_B_adopt_9 rfl 1 rfl rfl ?_
  refine X_getN Γ d_B_adopt_10 (by decide) kC_T rfl in_T 1 (by decide) w38 rfl rfl rfl ?_
  refine X_put (ty := .int) Γ d_B_adopt_13 (Nat.lt_of_lt_of_le n_2 (by decide : 6 ≤ 56)) (kC_B n_1 n_2) rfl in_B 6 (by decide) w159 rfl ty_B ty_B_ok nm_B rfl (by decide +kernel) rfl rfl (Nat.le_of_ble_eq_true rfl) (kp_B_6 n_1 n_2) rfl ?_
  refine X_aload_n Γ d_B_adopt_16 rfl 0 rfl rfl ?_
  refine X_iconst (v := 0) Γ d_B_adopt_17 (by decide) rfl ?_
  refine X_put (ty := .boolean) Γ d_B_adopt_18 (Nat.lt_of_lt_of_le n_2 (by decide : 6 ≤ 56)) (kC_B n_1 n_2) rfl in_B 9 (by decide) w165 rfl ty_B ty_B_ok nm_B rfl (by decide +kernel) rfl rfl (Nat.le_of_ble_eq_true rfl) (kp_B_9 n_1 n_2) rfl ?_
  refine X_aload_n Γ d_B_adopt_21 rfl 0 rfl rfl ?_
  refine X_callVi (rest := []) Γ d_B_adopt_22 (m_B_leads l D cI cZ cB cM a hJ P (g2 (g2 (g2 G n 5 (G 26 0)) n 6 ((g2 G n 5 (G 26 0)) 26 1)) n 9 0) n n_1 n_2) (Nat.lt_of_lt_of_le n_2 (by decide : 6 ≤ 56)) (kC_B n_1 n_2) rfl rfl w364 w230 s_B_leads w6 w231 e_B_leads ⟨by decide, by decide⟩ ⟨rfl, rfl⟩ rfl rfl (Nat.le_of_ble_eq_true rfl) rfl ?_
  refine X_if_eq (tgt := 63) Γ d_B_adopt_25 (by decide) rfl (fun h25 => ?_) (fun h25 => ?_)
  · replace E := E.trans (if_pos h25)
    exact X_vret Γ d_B_adopt_63 (gv_eq E)
  · replace E := E.trans (if_neg h25)
    refine X_aload_n Γ d_B_adopt_28 rfl 0 rfl rfl ?_
    refine X_aload_n Γ d_B_adopt_29 rfl 0 rfl rfl ?_
    refine X_get Γ d_B_adopt_30 (Nat.lt_of_lt_of_le n_2 (by decide : 6 ≤ 56)) (kC_B n_1 n_2) rfl in_B 1 (by decide) w150 rfl rfl rfl ?_
    refine X_getN Γ d_B_adopt_33 (Nat.lt_of_lt_of_le (Nat.lt_of_lt_of_le (Nat.add_lt_add_right n_2 4) (by decide : 6 + 4 ≤ 10)) (by decide : 10 ≤ 56)) (kC_L (Nat.le_trans (by decide : 6 ≤ 2 + 4) (Nat.add_le_add_right n_1 4)) (Nat.lt_of_lt_of_le (Nat.add_lt_add_right n_2 4) (by decide : 6 + 4 ≤ 10))) rfl in_L 2 (by decide) w136 rfl rfl rfl ?_
    refine X_put (ty := .int) Γ d_B_adopt_36 (Nat.lt_of_lt_of_le n_2 (by decide : 6 ≤ 56)) (kC_B n_1 n_2) rfl in_B 10 (by decide) w167 rfl ty_B ty_B_ok nm_B rfl (by decide +kernel) rfl rfl (Nat.le_of_ble_eq_true rfl) (kp_B_10 n_1 n_2) rfl ?_
    refine X_aload_n Γ d_B_adopt_39 rfl 0 rfl rfl ?_
    refine X_aload_n Γ d_B_adopt_40 rfl 1 rfl rfl ?_
    refine X_getN Γ d_B_adopt_41 (by decide) kC_T rfl in_T 2 (by decide) w41 rfl rfl rfl ?_
    refine X_put (ty := .int) Γ d_B_adopt_44 (Nat.lt_of_lt_of_le n_2 (by decide : 6 ≤ 56)) (kC_B n_1 n_2) rfl in_B 11 (by decide) w168 rfl ty_B ty_B_ok nm_B rfl (by decide +kernel) rfl rfl (Nat.le_of_ble_eq_true rfl) (kp_B_11 n_1 n_2) rfl ?_
    refine X_aload_n Γ d_B_adopt_47 rfl 0 rfl rfl ?_
    refine X_get Γ d_B_adopt_48 (Nat.lt_of_lt_of_le n_2 (by decide : 6 ≤ 56)) (kC_B n_1 n_2) rfl in_B 2 (by decide) w152 rfl rfl rfl ?_
    refine X_iconst (v := (-1)) Γ d_B_adopt_51 (by decide) rfl ?_
    refine X_callSv (rest := []) Γ d_B_adopt_52 (m_Arr_fill l D _ _ _ _ hJ _ _ (n + 16) 4 cI (Nat.lt_of_lt_of_le (Nat.lt_of_lt_of_le (Nat.add_lt_add_right n_2 16) (by decide : 6 + 16 ≤ 26)) (by decide : 26 ≤ 56)) (fun _ => (kC_A4 (Nat.le_trans (by decide : 18 ≤ 2 + 16) (Nat.add_le_add_right n_1 16)) (Nat.lt_of_lt_of_le (Nat.add_lt_add_right n_2 16) (by decide : 6 + 16 ≤ 26)))) rfl (-1) (by decide)) w145 w146 w8 w147 e_Arr_fill ⟨by decide, by decide⟩ ⟨rfl, rfl⟩ rfl rfl (Nat.le_of_ble_eq_true rfl) rfl ?_
    refine X_aload_n Γ d_B_adopt_55 rfl 0 rfl rfl ?_
    refine X_get Γ d_B_adopt_56 (Nat.lt_of_lt_of_le n_2 (by decide : 6 ≤ 56)) (kC_B n_1 n_2) rfl in_B 3 (by decide) w153 rfl rfl rfl ?_
    refine X_iload_n Γ d_B_adopt_59 rfl 2 rfl rfl ?_
    refine X_callSv (rest := []) Γ d_B_adopt_60 (m_Arr_fill l D _ _ _ _ hJ _ _ (n + 20) 4 cI (Nat.lt_of_lt_of_le (Nat.lt_of_lt_of_le (Nat.add_lt_add_right n_2 20) (by decide : 6 + 20 ≤ 26)) (by decide : 26 ≤ 56)) (fun _ => (kC_A4 (Nat.le_trans (by decide : 18 ≤ 2 + 20) (Nat.add_le_add_right n_1 20)) (Nat.lt_of_lt_of_le (Nat.add_lt_add_right n_2 20) (by decide : 6 + 20 ≤ 26)))) rfl x2 (by decide)) w145 w146 w8 w147 e_Arr_fill ⟨by decide, by decide⟩ ⟨rfl, rfl⟩ rfl rfl (Nat.le_of_ble_eq_true rfl) rfl ?_
    exact X_vret Γ d_B_adopt_63 (gv_eq E)
def f_B_raiseHw_10 (n : Nat) (G : Nat → Nat → Int32) : Nat → Int32 → Int32 → (Nat → Nat → Int32)
  | 0, v1_10, v2_10 => G
  | k10 + 1, v1_10, v2_10 => (if 4 ≤ v2_10 then (g2 G n 7 (if (G n 7) < v1_10 then v1_10 else (G n 7))) else (jn (fun (v1_45 : Int32) => (f_B_raiseHw_10 n G k10 v1_45 (v2_10 + 1))) (fun (j45 : Int32 → (Nat → Nat → Int32)) => (if v2_10 = (G n 0) then (j45 v1_10) else (if ((f_I_contains (G n 11) v2_10)) = 0 then (j45 v1_10) else (j45 (if (G (n + 16) v2_10.toNatClampNeg) < v1_10 then (G (n + 16) v2_10.toNatClampNeg) else v1_10)))))))
def f_B_raiseHw (n : Nat) (G : Nat → Nat → Int32) : (Nat → Nat → Int32) := (f_B_raiseHw_10 n G 5 (G (n + 4) 2) 0)
theorem e_B_raiseHw : y_B_raiseHw.cls ≠ "java/lang/invoke/MethodHandle" ∧ y_B_raiseHw.cls ≠ "java/lang/invoke/VarHandle" ∧ (parseMethodDescriptor y_B_raiseHw.desc).map (fun d => d.parameters.length) = some 0 := by decide +kernel
set_option maxHeartbeats 4000000 in
set_option maxRecDepth 100000 in
theorem m_B_raiseHw (l : Launch) (D : va_G) (cI cZ cB cM : ClassId) (a : Nat → Nat) (hJ : xJ 56 a) (P : Nat → Nat) (G : Nat → Nat → Int32) (n : Nat) (n_1 : 2 ≤ n) (n_2 : n < 6) : Met l y_B_raiseHw (Cond.code y_B_raiseHw prog_2_method_7_code 3 (Option.none : Option FieldType) :: wsBig) { frames := 1, cells := 0, slots := 0, locals := 21 } (xP D xcl (xty cI cZ cB cM) 56 a (kg (kC cI cB cM a P) G) [.ref (a n)]) (xQv D xcl 56 a (kg (kC cI cB cM a P) (f_B_raiseHw n G))) 0 0 (xA 56 a) := by
  refine X_met (by decide) rfl (Nat.le_of_ble_eq_true rfl) hJ (fun Y s m args Γ => ?_)
  show X Y s m D xcl 56 a 3 (kg (kC cI cB cM a P) G) 0 [(0, .ref (a n))] []
  have E := f_B_raiseHw.eq_1 n G
  refine X_aload_n Γ d_B_raiseHw_0 rfl 0 rfl rfl ?_
  refine X_get Γ d_B_raiseHw_1 (Nat.lt_of_lt_of_le n_2 (by decide : 6 ≤ 56)) (kC_B n_1 n_2) rfl in_B 1 (by decide) w150 rfl rfl rfl ?_
  refine X_getN Γ d_B_raiseHw_4 (Nat.lt_of_lt_of_le (Nat.lt_of_lt_of_le (Nat.add_lt_add_right n_2 4) (by decide : 6 + 4 ≤ 10)) (by decide : 10 ≤ 56)) (kC_L (Nat.le_trans (by decide : 6 ≤ 2 + 4) (Nat.add_le_add_right n_1 4)) (Nat.lt_of_lt_of_le (Nat.add_lt_add_right n_2 4) (by decide : 6 + 4 ≤ 10))) rfl in_L 2 (by decide) w136 rfl rfl rfl ?_
  refine X_istore_n Γ d_B_raiseHw_7 rfl (by decide) rfl rfl ?_
  refine X_iconst (v := 0) Γ d_B_raiseHw_8 (by decide) rfl ?_
  refine X_istore_n Γ d_B_raiseHw_9 rfl (by decide) rfl rfl ?_
  have J10 : ∀ (k10 : Nat) (v1_10 : Int32) (v2_10 : Int32), (0 < k10 ∧ k10 ≤ 5 ∧ v2_10 = nI (5 - k10)) → f_B_raiseHw n G = f_B_raiseHw_10 n G k10 v1_10 v2_10 → X Y s m D xcl 56 a 3 (kg (kC cI cB cM a P) G) 10 [(0, .ref (a n)), (1, .int v1_10), (2, .int v2_10)] [] := by
    intro k10
    induction k10 with
    | zero => exact fun v1_10 v2_10 hI10 _ => absurd hI10 (fun h => Nat.lt_irrefl 0 h.1)
    | succ k10 ih10 =>
      intro v1_10 v2_10 hI10 E
      rw [f_B_raiseHw_10] at E
      refine X_iload_n Γ d_B_raiseHw_10 rfl 2 rfl rfl ?_
      refine X_iconst (v := 4) Γ d_B_raiseHw_11 (by decide) rfl ?_
      refine X_icmp_ge (tgt := 51) Γ d_B_raiseHw_12 (by decide) rfl (fun h12 => ?_) (fun h12 => ?_)
      · replace E := E.trans (if_pos h12)
        refine X_aload_n Γ d_B_raiseHw_51 rfl 0 rfl rfl ?_
        refine X_aload_n Γ d_B_raiseHw_52 rfl 0 rfl rfl ?_
        refine X_get Γ d_B_raiseHw_53 (Nat.lt_of_lt_of_le n_2 (by decide : 6 ≤ 56)) (kC_B n_1 n_2) rfl in_B 7 (by decide) w161 rfl rfl rfl ?_
        refine X_iload_n Γ d_B_raiseHw_56 rfl 1 rfl rfl ?_
        refine X_mmax Γ d_B_raiseHw_57 w259 w26 w2 w27 (by decide) (Nat.le_of_ble_eq_true rfl) rfl ?_
        refine X_put (ty := .int) Γ d_B_raiseHw_60 (Nat.lt_of_lt_of_le n_2 (by decide : 6 ≤ 56)) (kC_B n_1 n_2) rfl in_B 7 (by decide) w161 rfl ty_B ty_B_ok nm_B rfl (by decide +kernel) rfl rfl (Nat.le_of_ble_eq_true rfl) (kp_B_7 n_1 n_2) rfl ?_
        exact X_vret Γ d_B_raiseHw_63 (gv_eq E)
      · replace E := E.trans (if_neg h12)
        refine X_iload_n Γ d_B_raiseHw_15 rfl 2 rfl rfl ?_
        refine X_aload_n Γ d_B_raiseHw_16 rfl 0 rfl rfl ?_
        refine X_get Γ d_B_raiseHw_17 (Nat.lt_of_lt_of_le n_2 (by decide : 6 ≤ 56)) (kC_B n_1 n_2) rfl in_B 0 (by decide) w148 rfl rfl rfl ?_
        refine jn_open E (fun j45 ej45 E => ?_)
        have J45 : ∀ (v1_45 : Int32), (True) → f_B_raiseHw n G = j45 v1_45 → X Y s m D xcl 56 a 3 (kg (kC cI cB cM a P) G) 45 [(0, .ref (a n)), (1, .int v1_45), (2, .int v2_10)] [] := by
          intro v1_45 hI45 E
          rw [ej45] at E
          refine X_iinc (v := (v2_10 + 1)) Γ d_B_raiseHw_45 2 rfl rfl (by decide) rfl rfl ?_
          refine X_goto (pc' := 10) Γ d_B_raiseHw_48 (by decide) ?_
          refine X_loc [1, 2, 0] rfl ?_
          exact ih10 v1_45 (v2_10 + 1) (lc_step (by decide) (by decide) hI10.1 hI10.2.1 hI10.2.2 h12) E
        refine X_icmp_eq (tgt := 45) Γ d_B_raiseHw_20 (by decide) rfl (fun h20 => ?_) (fun h20 => ?_)
        · replace E := E.trans (if_pos h20)
          refine X_loc [0, 1, 2] rfl ?_
          exact J45 v1_10 trivial E
        · replace E := E.trans (if_neg h20)
          refine X_aload_n Γ d_B_raiseHw_23 rfl 0 rfl rfl ?_
          refine X_get Γ d_B_raiseHw_24 (Nat.lt_of_lt_of_le n_2 (by decide : 6 ≤ 56)) (kC_B n_1 n_2) rfl in_B 11 (by decide) w168 rfl rfl rfl ?_
          refine X_iload_n Γ d_B_raiseHw_27 rfl 2 rfl rfl ?_
          refine X_callSNi (rest := []) Γ d_B_raiseHw_28 (m_I_contains l D _ _ _ _ hJ _ _ (G n 11) v2_10) w255 w256 w1 w257 e_I_contains ⟨by decide, by decide⟩ ⟨rfl, rfl⟩ rfl rfl (Nat.le_of_ble_eq_true rfl) rfl ?_
          refine X_if_eq (tgt := 45) Γ d_B_raiseHw_31 (by decide) rfl (fun h31 => ?_) (fun h31 => ?_)
          · replace E := E.trans (if_pos h31)
            refine X_loc [0, 1, 2] rfl ?_
            exact J45 v1_10 trivial E
          · replace E := E.trans (if_neg h31)
            refine X_iload_n Γ d_B_raiseHw_34 rfl 1 rfl rfl ?_
            refine X_aload_n Γ d_B_raiseHw_35 rfl 0 rfl rfl ?_
            refine X_get Γ d_B_raiseHw_36 (Nat.lt_of_lt_of_le n_2 (by decide : 6 ≤ 56)) (kC_B n_1 n_2) rfl in_B 2 (by decide) w152 rfl rfl rfl ?_
            refine X_iload_n Γ d_B_raiseHw_39 rfl 2 rfl rfl ?_
            refine X_iald (v := (G (n + 16) v2_10.toNatClampNeg)) Γ d_B_raiseHw_40 (Nat.lt_of_lt_of_le (Nat.lt_of_lt_of_le (Nat.add_lt_add_right n_2 16) (by decide : 6 + 16 ≤ 26)) (by decide : 26 ≤ 56)) (kC_A4 (Nat.le_trans (by decide : 18 ≤ 2 + 16) (Nat.add_le_add_right n_1 16)) (Nat.lt_of_lt_of_le (Nat.add_lt_add_right n_2 16) (by decide : 6 + 16 ≤ 26))) 0 rfl (lc_in (by decide) (by decide) hI10.2.1 hI10.2.2 h12) rfl rfl ?_
            refine X_mmin Γ d_B_raiseHw_41 w258 w23 w2 w24 (by decide) (Nat.le_of_ble_eq_true rfl) rfl ?_
            refine X_istore_n Γ d_B_raiseHw_44 rfl (by decide) rfl rfl ?_
            refine X_loc [1, 0, 2] rfl ?_
            exact J45 (if (G (n + 16) v2_10.toNatClampNeg) < v1_10 then (G (n + 16) v2_10.toNatClampNeg) else v1_10) trivial E
  refine X_loc [2, 1, 0] rfl ?_
  exact J10 5 (G (n + 4) 2) 0 (⟨by decide, by decide, by decide⟩) E
def f_B_noteFetched (n : Nat) (x1 : Int32) (x2 : Int32) (x3 : Int32) (G : Nat → Nat → Int32) : (Nat → Nat → Int32) := (if x2 = ((g2 G (n + 16) x1.toNatClampNeg (if (G (n + 16) x1.toNatClampNeg) < x2 then x2 else (G (n + 16) x1.toNatClampNeg))) (n + 4) 2) then ((f_B_raiseHw n (g2 (g2 G (n + 16) x1.toNatClampNeg (if (G (n + 16) x1.toNatClampNeg) < x2 then x2 else (G (n + 16) x1.toNatClampNeg))) (n + 20) x1.toNatClampNeg x3))) else ((f_B_raiseHw n (g2 G (n + 16) x1.toNatClampNeg (if (G (n + 16) x1.toNatClampNeg) < x2 then x2 else (G (n + 16) x1.toNatClampNeg))))))
theorem e_B_noteFetched : y_B_noteFetched.cls ≠ "java/lang/invoke/MethodHandle" ∧ y_B_noteFetched.cls ≠ "java/lang/invoke/VarHandle" ∧ (parseMethodDescriptor y_B_noteFetched.desc).map (fun d => d.parameters.length) = some 3 := by decide +kernel
set_option maxHeartbeats 4000000 in
set_option maxRecDepth 100000 in
theorem m_B_noteFetched (l : Launch) (D : va_G) (cI cZ cB cM : ClassId) (a : Nat → Nat) (hJ : xJ 56 a) (P : Nat → Nat) (G : Nat → Nat → Int32) (n : Nat) (n_1 : 2 ≤ n) (n_2 : n < 6) (x1 : Int32) (x2 : Int32) (x3 : Int32) (hx : vp_in x1 4) : Met l y_B_noteFetched (Cond.code y_B_noteFetched prog_2_method_6_code 4 (Option.none : Option FieldType) :: wsBig) { frames := 2, cells := 0, slots := 0, locals := 43 } (xP D xcl (xty cI cZ cB cM) 56 a (kg (kC cI cB cM a P) G) [.ref (a n), .int x1, .int x2, .int x3]) (xQv D xcl 56 a (kg (kC cI cB cM a P) (f_B_noteFetched n x1 x2 x3 G))) 0 0 (xA 56 a) := by
  refine X_met (by decide) rfl (Nat.le_of_ble_eq_true rfl) hJ (fun Y s m args Γ => ?_)
  show X Y s m D xcl 56 a 4 (kg (kC cI cB cM a P) G) 0 [(0, .ref (a n)), (1, .int x1), (2, .int x2), (3, .int x3)] []
  have E := f_B_noteFetched.eq_1 n x1 x2 x3 G
  refine X_aload_n Γ d_B_noteFetched_0 rfl 0 rfl rfl ?_
  refine X_get Γ d_B_noteFetched_1 (Nat.lt_of_lt_of_le n_2 (by decide : 6 ≤ 56)) (kC_B n_1 n_2) rfl in_B 2 (by decide) w152 rfl rfl rfl ?_
  refine X_iload_n Γ d_B_noteFetched_4 rfl 1 rfl rfl ?_
  refine X_aload_n Γ d_B_noteFetched_5 rfl 0 rfl rfl ?_
  refine X_get Γ d_B_noteFetched_6 (Nat.lt_of_lt_of_le n_2 (by decide : 6 ≤ 56)) (kC_B n_1 n_2) rfl in_B 2 (by decide) w152 rfl rfl rfl ?_
  refine X_iload_n Γ d_B_noteFetched_9 rfl 1 rfl rfl ?_
  refine X_iald (v := (G (n + 16) x1.toNatClampNeg)) Γ d_B_noteFetched_10 (Nat.lt_of_lt_of_le (Nat.lt_of_lt_of_le (Nat.add_lt_add_right n_2 16) (by decide : 6 + 16 ≤ 26)) (by decide : 26 ≤ 56)) (kC_A4 (Nat.le_trans (by decide : 18 ≤ 2 + 16) (Nat.add_le_add_right n_1 16)) (Nat.lt_of_lt_of_le (Nat.add_lt_add_right n_2 16) (by decide : 6 + 16 ≤ 26))) 0 rfl hx rfl rfl ?_
  refine X_iload_n Γ d_B_noteFetched_11 rfl 2 rfl rfl ?_
  refine X_mmax Γ d_B_noteFetched_12 w259 w26 w2 w27 (by decide) (Nat.le_of_ble_eq_true rfl) rfl ?_
  refine X_iast (kx := x1.toNatClampNeg) Γ d_B_noteFetched_15 (Nat.lt_of_lt_of_le (Nat.lt_of_lt_of_le (Nat.add_lt_add_right n_2 16) (by decide : 6 + 16 ≤ 26)) (by decide : 26 ≤ 56)) (kC_A4 (Nat.le_trans (by decide : 18 ≤ 2 + 16) (Nat.add_le_add_right n_1 16)) (Nat.lt_of_lt_of_le (Nat.add_lt_add_right n_2 16) (by decide : 6 + 16 ≤ 26))) 0 rfl hx (fun _ => (kC_A4 (Nat.le_trans (by decide : 18 ≤ 2 + 16) (Nat.add_le_add_right n_1 16)) (Nat.lt_of_lt_of_le (Nat.add_lt_add_right n_2 16) (by decide : 6 + 16 ≤ 26)))) rfl rfl ?_
  refine X_iload_n Γ d_B_noteFetched_16 rfl 2 rfl rfl ?_
  refine X_aload_n Γ d_B_noteFetched_17 rfl 0 rfl rfl ?_
  refine X_get Γ d_B_noteFetched_18 (Nat.lt_of_lt_of_le n_2 (by decide : 6 ≤ 56)) (kC_B n_1 n_2) rfl in_B 1 (by decide) w150 rfl rfl rfl ?_
  refine X_getN Γ d_B_noteFetched_21 (Nat.lt_of_lt_of_le (Nat.lt_of_lt_of_le (Nat.add_lt_add_right n_2 4) (by decide : 6 + 4 ≤ 10)) (by decide : 10 ≤ 56)) (kC_L (Nat.le_trans (by decide : 6 ≤ 2 + 4) (Nat.add_le_add_right n_1 4)) (Nat.lt_of_lt_of_le (Nat.add_lt_add_right n_2 4) (by decide : 6 + 4 ≤ 10))) rfl in_L 2 (by decide) w136 rfl rfl rfl ?_
  refine X_icmp_ne (tgt := 34) Γ d_B_noteFetched_24 (by decide) rfl (fun h24 => ?_) (fun h24 => ?_)
  · replace E := E.trans (if_neg h24)
    refine X_aload_n Γ d_B_noteFetched_34 rfl 0 rfl rfl ?_
    refine X_callVv (rest := []) Γ d_B_noteFetched_35 (m_B_raiseHw l D cI cZ cB cM a hJ P (g2 G (n + 16) x1.toNatClampNeg (if (G (n + 16) x1.toNatClampNeg) < x2 then x2 else (G (n + 16) x1.toNatClampNeg))) n n_1 n_2) (Nat.lt_of_lt_of_le n_2 (by decide : 6 ≤ 56)) (kC_B n_1 n_2) rfl rfl w336 w253 s_B_raiseHw w6 w254 e_B_raiseHw ⟨by decide, by decide⟩ ⟨rfl, rfl⟩ rfl rfl (Nat.le_of_ble_eq_true rfl) rfl ?_
    exact X_vret Γ d_B_noteFetched_38 (gv_eq E)
  · replace E := E.trans (if_pos h24)
    refine X_aload_n Γ d_B_noteFetched_27 rfl 0 rfl rfl ?_
    refine X_get Γ d_B_noteFetched_28 (Nat.lt_of_lt_of_le n_2 (by decide : 6 ≤ 56)) (kC_B n_1 n_2) rfl in_B 3 (by decide) w153 rfl rfl rfl ?_
    refine X_iload_n Γ d_B_noteFetched_31 rfl 1 rfl rfl ?_
    refine X_iload_n Γ d_B_noteFetched_32 rfl 3 rfl rfl ?_
    refine X_iast (kx := x1.toNatClampNeg) Γ d_B_noteFetched_33 (Nat.lt_of_lt_of_le (Nat.lt_of_lt_of_le (Nat.add_lt_add_right n_2 20) (by decide : 6 + 20 ≤ 26)) (by decide : 26 ≤ 56)) (kC_A4 (Nat.le_trans (by decide : 18 ≤ 2 + 20) (Nat.add_le_add_right n_1 20)) (Nat.lt_of_lt_of_le (Nat.add_lt_add_right n_2 20) (by decide : 6 + 20 ≤ 26))) 0 rfl hx (fun _ => (kC_A4 (Nat.le_trans (by decide : 18 ≤ 2 + 20) (Nat.add_le_add_right n_1 20)) (Nat.lt_of_lt_of_le (Nat.add_lt_add_right n_2 20) (by decide : 6 + 20 ≤ 26)))) rfl rfl ?_
    refine X_aload_n Γ d_B_noteFetched_34 rfl 0 rfl rfl ?_
    refine X_callVv (rest := []) Γ d_B_noteFetched_35 (m_B_raiseHw l D cI cZ cB cM a hJ P (g2 (g2 G (n + 16) x1.toNatClampNeg (if (G (n + 16) x1.toNatClampNeg) < x2 then x2 else (G (n + 16) x1.toNatClampNeg))) (n + 20) x1.toNatClampNeg x3) n n_1 n_2) (Nat.lt_of_lt_of_le n_2 (by decide : 6 ≤ 56)) (kC_B n_1 n_2) rfl rfl w336 w253 s_B_raiseHw w6 w254 e_B_raiseHw ⟨by decide, by decide⟩ ⟨rfl, rfl⟩ rfl rfl (Nat.le_of_ble_eq_true rfl) rfl ?_
    exact X_vret Γ d_B_noteFetched_38 (gv_eq E)
def f_B_hasFetchedEnough (n : Nat) (x1 : Int32) (G : Nat → Nat → Int32) : Int32 := (if (G (n + 16) x1.toNatClampNeg) < (G n 7) then 0 else (if (G (n + 16) x1.toNatClampNeg) < (G n 10) then 0 else 1))
theorem e_B_hasFetchedEnough : y_B_hasFetchedEnough.cls ≠ "java/lang/invoke/MethodHandle" ∧ y_B_hasFetchedEnough.cls ≠ "java/lang/invoke/VarHandle" ∧ (parseMethodDescriptor y_B_hasFetchedEnough.desc).map (fun d => d.parameters.length) = some 1 := by decide +kernel
set_option maxHeartbeats 4000000 in
set_option maxRecDepth 100000 in
theorem m_B_hasFetchedEnough (l : Launch) (D : va_G) (cI cZ cB cM : ClassId) (a : Nat → Nat) (hJ : xJ 56 a) (P : Nat → Nat) (G : Nat → Nat → Int32) (n : Nat) (n_1 : 2 ≤ n) (n_2 : n < 6) (x1 : Int32) (hx : vp_in x1 4) : Met l y_B_hasFetchedEnough (Cond.code y_B_hasFetchedEnough prog_2_method_9_code 2 (Option.some FieldType.boolean) :: wsBig) { frames := 0, cells := 0, slots := 0, locals := 0 } (xP D xcl (xty cI cZ cB cM) 56 a (kg (kC cI cB cM a P) G) [.ref (a n), .int x1]) (xQi D xcl 56 a (f_B_hasFetchedEnough n x1 G) (kg (kC cI cB cM a P) G)) 0 0 (xA 56 a) := by
  refine X_met (by decide) rfl (Nat.le_of_ble_eq_true rfl) hJ (fun Y s m args Γ => ?_)
  show X Y s m D xcl 56 a 2 (kg (kC cI cB cM a P) G) 0 [(0, .ref (a n)), (1, .int x1)] []
  have E := f_B_hasFetchedEnough.eq_1 n x1 G
  refine X_aload_n Γ d_B_hasFetchedEnough_0 rfl 0 rfl rfl ?_
  refine X_get Γ d_B_hasFetchedEnough_1 (Nat.lt_of_lt_of_le n_2 (by decide : 6 ≤ 56)) (kC_B n_1 n_2) rfl in_B 2 (by decide) w152 rfl rfl rfl ?_
  refine X_iload_n Γ d_B_hasFetchedEnough_4 rfl 1 rfl rfl ?_
  refine X_iald (v := (G (n + 16) x1.toNatClampNeg)) Γ d_B_hasFetchedEnough_5 (Nat.lt_of_lt_of_le (Nat.lt_of_lt_of_le (Nat.add_lt_add_right n_2 16) (by decide : 6 + 16 ≤ 26)) (by decide : 26 ≤ 56)) (kC_A4 (Nat.le_trans (by decide : 18 ≤ 2 + 16) (Nat.add_le_add_right n_1 16)) (Nat.lt_of_lt_of_le (Nat.add_lt_add_right n_2 16) (by decide : 6 + 16 ≤ 26))) 0 rfl hx rfl rfl ?_
  refine X_aload_n Γ d_B_hasFetchedEnough_6 rfl 0 rfl rfl ?_
  refine X_get Γ d_B_hasFetchedEnough_7 (Nat.lt_of_lt_of_le n_2 (by decide : 6 ≤ 56)) (kC_B n_1 n_2) rfl in_B 7 (by decide) w161 rfl rfl rfl ?_
  refine X_icmp_lt (tgt := 30) Γ d_B_hasFetchedEnough_10 (by decide) rfl (fun h10 => ?_) (fun h10 => ?_)
  · replace E := E.trans (if_pos h10)
    refine X_iconst (v := 0) Γ d_B_hasFetchedEnough_30 (by decide) rfl ?_
    exact X_iretz Γ d_B_hasFetchedEnough_31 rfl E.symm rfl
  · replace E := E.trans (if_neg h10)
    refine X_aload_n Γ d_B_hasFetchedEnough_13 rfl 0 rfl rfl ?_
    refine X_get Γ d_B_hasFetchedEnough_14 (Nat.lt_of_lt_of_le n_2 (by decide : 6 ≤ 56)) (kC_B n_1 n_2) rfl in_B 2 (by decide) w152 rfl rfl rfl ?_
    refine X_iload_n Γ d_B_hasFetchedEnough_17 rfl 1 rfl rfl ?_
    refine X_iald (v := (G (n + 16) x1.toNatClampNeg)) Γ d_B_hasFetchedEnough_18 (Nat.lt_of_lt_of_le (Nat.lt_of_lt_of_le (Nat.add_lt_add_right n_2 16) (by decide : 6 + 16 ≤ 26)) (by decide : 26 ≤ 56)) (kC_A4 (Nat.le_trans (by decide : 18 ≤ 2 + 16) (Nat.add_le_add_right n_1 16)) (Nat.lt_of_lt_of_le (Nat.add_lt_add_right n_2 16) (by decide : 6 + 16 ≤ 26))) 0 rfl hx rfl rfl ?_
    refine X_aload_n Γ d_B_hasFetchedEnough_19 rfl 0 rfl rfl ?_
    refine X_get Γ d_B_hasFetchedEnough_20 (Nat.lt_of_lt_of_le n_2 (by decide : 6 ≤ 56)) (kC_B n_1 n_2) rfl in_B 10 (by decide) w167 rfl rfl rfl ?_
    refine X_icmp_lt (tgt := 30) Γ d_B_hasFetchedEnough_23 (by decide) rfl (fun h23 => ?_) (fun h23 => ?_)
    · replace E := E.trans (if_pos h23)
      refine X_iconst (v := 0) Γ d_B_hasFetchedEnough_30 (by decide) rfl ?_
      exact X_iretz Γ d_B_hasFetchedEnough_31 rfl E.symm rfl
    · replace E := E.trans (if_neg h23)
      refine X_iconst (v := 1) Γ d_B_hasFetchedEnough_26 (by decide) rfl ?_
      refine X_goto (pc' := 31) Γ d_B_hasFetchedEnough_27 (by decide) ?_
      exact X_iretz Γ d_B_hasFetchedEnough_31 rfl E.symm rfl
def f_B_replicasInSync_10 (n : Nat) (x1 : Int32) (x2 : Int32) (G : Nat → Nat → Int32) : Nat → Int32 → Int32 → Int32
  | 0, v3_10, v4_10 => 0
  | k10 + 1, v3_10, v4_10 => (if 4 ≤ v4_10 then v3_10 else (jn (fun (t0_34 : Int32) => (jn (fun (v3_69 : Int32) => (f_B_replicasInSync_10 n x1 x2 G k10 v3_69 (v4_10 + 1))) (fun (j69 : Int32 → Int32) => (if t0_34 = 0 then (if ((f_I_contains (G n 11) v4_10)) = 0 then (if ((f_B_hasFetchedEnough n v4_10 G)) = 0 then (j69 v3_10) else (j69 (v3_10 ||| (1 <<< (v4_10 &&& 31))))) else (j69 (v3_10 ||| (1 <<< (v4_10 &&& 31))))) else (j69 v3_10))))) (fun (j34 : Int32 → Int32) => (if (x1 - (G (n + 20) v4_10.toNatClampNeg)) ≤ x2 then (j34 0) else (j34 1)))))
def f_B_replicasInSync (n : Nat) (x1 : Int32) (x2 : Int32) (G : Nat → Nat → Int32) : Int32 := (f_B_replicasInSync_10 n x1 x2 G 5 (1 <<< ((G n 0) &&& 31)) 0)
theorem e_B_replicasInSync : y_B_replicasInSync.cls ≠ "java/lang/invoke/MethodHandle" ∧ y_B_replicasInSync.cls ≠ "java/lang/invoke/VarHandle" ∧ (parseMethodDescriptor y_B_replicasInSync.desc).map (fun d => d.parameters.length) = some 2 := by decide +kernel
set_option maxHeartbeats 4000000 in
set_option maxRecDepth 100000 in
theorem m_B_replicasInSync (l : Launch) (D : va_G) (cI cZ cB cM : ClassId) (a : Nat → Nat) (hJ : xJ 56 a) (P : Nat → Nat) (G : Nat → Nat → Int32) (n : Nat) (n_1 : 2 ≤ n) (n_2 : n < 6) (x1 : Int32) (x2 : Int32) : Met l y_B_replicasInSync (Cond.code y_B_replicasInSync prog_2_method_8_code 6 (Option.some FieldType.int) :: wsBig) { frames := 1, cells := 0, slots := 0, locals := 21 } (xP D xcl (xty cI cZ cB cM) 56 a (kg (kC cI cB cM a P) G) [.ref (a n), .int x1, .int x2]) (xQi D xcl 56 a (f_B_replicasInSync n x1 x2 G) (kg (kC cI cB cM a P) G)) 0 0 (xA 56 a) := by
  refine X_met (by decide) rfl (Nat.le_of_ble_eq_true rfl) hJ (fun Y s m args Γ => ?_)
  show X Y s m D xcl 56 a 6 (kg (kC cI cB cM a P) G) 0 [(0, .ref (a n)), (1, .int x1), (2, .int x2)] []
  have E := f_B_replicasInSync.eq_1 n x1 x2 G
  refine X_iconst (v := 1) Γ d_B_replicasInSync_0 (by decide) rfl ?_
  refine X_aload_n Γ d_B_replicasInSync_1 rfl 0 rfl rfl ?_
  refine X_get Γ d_B_replicasInSync_2 (Nat.lt_of_lt_of_le n_2 (by decide : 6 ≤ 56)) (kC_B n_1 n_2) rfl in_B 0 (by decide) w148 rfl rfl rfl ?_
  refine X_ishl Γ d_B_replicasInSync_5 rfl ?_
  refine X_istore_n Γ d_B_replicasInSync_6 rfl (by decide) rfl rfl ?_
  refine X_iconst (v := 0) Γ d_B_replicasInSync_7 (by decide) rfl ?_
  refine X_istore Γ d_B_replicasInSync_8 (by decide) rfl rfl ?_
  have J10 : ∀ (k10 : Nat) (v3_10 : Int32) (v4_10 : Int32), (0 < k10 ∧ k10 ≤ 5 ∧ v4_10 = nI (5 - k10)) → f_B_replicasInSync n x1 x2 G = f_B_replicasInSync_10 n x1 x2 G k10 v3_10 v4_10 → X Y s m D xcl 56 a 6 (kg (kC cI cB cM a P) G) 10 [(0, .ref (a n)), (1, .int x1), (2, .int x2), (3, .int v3_10), (4, .int v4_10)] [] := by
    intro k10
    induction k10 with
    | zero => exact fun v3_10 v4_10 hI10 _ => absurd hI10 (fun h => Nat.lt_irrefl 0 h.1)
    | succ k10 ih10 =>
      intro v3_10 v4_10 hI10 E
      rw [f_B_replicasInSync_10] at E
      refine X_iload Γ d_B_replicasInSync_10 4 rfl rfl ?_
      refine X_iconst (v := 4) Γ d_B_replicasInSync_12 (by decide) rfl ?_
      refine X_icmp_ge (tgt := 75) Γ d_B_replicasInSync_13 (by decide) rfl (fun h13 => ?_) (fun h13 => ?_)
      · replace E := E.trans (if_pos h13)
        refine X_iload_n Γ d_B_replicasInSync_75 rfl 3 rfl rfl ?_
        exact X_ireti Γ d_B_replicasInSync_76 E.symm rfl
      · replace E := E.trans (if_neg h13)
        refine X_iload_n Γ d_B_replicasInSync_16 rfl 1 rfl rfl ?_
        refine X_aload_n Γ d_B_replicasInSync_17 rfl 0 rfl rfl ?_
        refine X_get Γ d_B_replicasInSync_18 (Nat.lt_of_lt_of_le n_2 (by decide : 6 ≤ 56)) (kC_B n_1 n_2) rfl in_B 3 (by decide) w153 rfl rfl rfl ?_
        refine X_iload Γ d_B_replicasInSync_21 4 rfl rfl ?_
        refine X_iald (v := (G (n + 20) v4_10.toNatClampNeg)) Γ d_B_replicasInSync_23 (Nat.lt_of_lt_of_le (Nat.lt_of_lt_of_le (Nat.add_lt_add_right n_2 20) (by decide : 6 + 20 ≤ 26)) (by decide : 26 ≤ 56)) (kC_A4 (Nat.le_trans (by decide : 18 ≤ 2 + 20) (Nat.add_le_add_right n_1 20)) (Nat.lt_of_lt_of_le (Nat.add_lt_add_right n_2 20) (by decide : 6 + 20 ≤ 26))) 0 rfl (lc_in (by decide) (by decide) hI10.2.1 hI10.2.2 h13) rfl rfl ?_
        refine X_isub Γ d_B_replicasInSync_24 rfl ?_
        refine X_iload_n Γ d_B_replicasInSync_25 rfl 2 rfl rfl ?_
        refine jn_open E (fun j34 ej34 E => ?_)
        have J34 : ∀ (t0_34 : Int32), (True) → f_B_replicasInSync n x1 x2 G = j34 t0_34 → X Y s m D xcl 56 a 6 (kg (kC cI cB cM a P) G) 34 [(0, .ref (a n)), (1, .int x1), (2, .int x2), (3, .int v3_10), (4, .int v4_10)] [.int t0_34] := by
          intro t0_34 hI34 E
          rw [ej34] at E
          refine X_istore Γ d_B_replicasInSync_34 (by decide) rfl rfl ?_
          refine X_iload Γ d_B_replicasInSync_36 0 rfl rfl ?_
          refine jn_open E (fun j69 ej69 E => ?_)
          have J69 : ∀ (v3_69 : Int32), (True) → f_B_replicasInSync n x1 x2 G = j69 v3_69 → X Y s m D xcl 56 a 6 (kg (kC cI cB cM a P) G) 69 [(0, .ref (a n)), (1, .int x1), (2, .int x2), (3, .int v3_69), (4, .int v4_10), (5, .int t0_34)] [] := by
            intro v3_69 hI69 E
            rw [ej69] at E
            refine X_iinc (v := (v4_10 + 1)) Γ d_B_replicasInSync_69 4 rfl rfl (by decide) rfl rfl ?_
            refine X_goto (pc' := 10) Γ d_B_replicasInSync_72 (by decide) ?_
            refine X_loc [1, 2, 3, 4, 0] rfl ?_
            exact ih10 v3_69 (v4_10 + 1) (lc_step (by decide) (by decide) hI10.1 hI10.2.1 hI10.2.2 h13) E
          refine X_if_ne (tgt := 69) Γ d_B_replicasInSync_38 (by decide) rfl (fun h38 => ?_) (fun h38 => ?_)
          · replace E := E.trans (if_neg h38)
            refine X_loc [1, 2, 3, 4, 5, 0] rfl ?_
            exact J69 v3_10 trivial E
          · replace E := E.trans (if_pos h38)
            refine X_aload_n Γ d_B_replicasInSync_41 rfl 1 rfl rfl ?_
            refine X_get Γ d_B_replicasInSync_42 (Nat.lt_of_lt_of_le n_2 (by decide : 6 ≤ 56)) (kC_B n_1 n_2) rfl in_B 11 (by decide) w168 rfl rfl rfl ?_
            refine X_iload Γ d_B_replicasInSync_45 5 rfl rfl ?_
            refine X_callSNi (rest := []) Γ d_B_replicasInSync_47 (m_I_contains l D _ _ _ _ hJ _ _ (G n 11) v4_10) w255 w256 w1 w257 e_I_contains ⟨by decide, by decide⟩ ⟨rfl, rfl⟩ rfl rfl (Nat.le_of_ble_eq_true rfl) rfl ?_
            refine X_if_ne (tgt := 62) Γ d_B_replicasInSync_50 (by decide) rfl (fun h50 => ?_) (fun h50 => ?_)
            · replace E := E.trans (if_neg h50)
              refine X_iload_n Γ d_B_replicasInSync_62 rfl 4 rfl rfl ?_
              refine X_iconst (v := 1) Γ d_B_replicasInSync_63 (by decide) rfl ?_
              refine X_iload Γ d_B_replicasInSync_64 5 rfl rfl ?_
              refine X_ishl Γ d_B_replicasInSync_66 rfl ?_
              refine X_ior Γ d_B_replicasInSync_67 rfl ?_
              refine X_istore_n Γ d_B_replicasInSync_68 rfl (by decide) rfl rfl ?_
              refine X_loc [2, 3, 4, 0, 5, 1] rfl ?_
              exact J69 (v3_10 ||| (1 <<< (v4_10 &&& 31))) trivial E
            · replace E := E.trans (if_pos h50)
              refine X_aload_n Γ d_B_replicasInSync_53 rfl 1 rfl rfl ?_
              refine X_iload Γ d_B_replicasInSync_54 5 rfl rfl ?_
              refine X_callVi (rest := []) Γ d_B_replicasInSync_56 (m_B_hasFetchedEnough l D cI cZ cB cM a hJ P G n n_1 n_2 v4_10 (lc_in (by decide) (by decide) hI10.2.1 hI10.2.2 h13)) (Nat.lt_of_lt_of_le n_2 (by decide : 6 ≤ 56)) (kC_B n_1 n_2) rfl rfl w401 w403 s_B_hasFetchedEnough w6 w404 e_B_hasFetchedEnough ⟨by decide, by decide⟩ ⟨rfl, rfl⟩ rfl rfl (Nat.le_of_ble_eq_true rfl) rfl ?_
              refine X_if_eq (tgt := 69) Γ d_B_replicasInSync_59 (by decide) rfl (fun h59 => ?_) (fun h59 => ?_)
              · replace E := E.trans (if_pos h59)
                refine X_loc [1, 2, 3, 4, 5, 0] rfl ?_
                exact J69 v3_10 trivial E
              · replace E := E.trans (if_neg h59)
                refine X_iload_n Γ d_B_replicasInSync_62 rfl 4 rfl rfl ?_
                refine X_iconst (v := 1) Γ d_B_replicasInSync_63 (by decide) rfl ?_
                refine X_iload Γ d_B_replicasInSync_64 5 rfl rfl ?_
                refine X_ishl Γ d_B_replicasInSync_66 rfl ?_
                refine X_ior Γ d_B_replicasInSync_67 rfl ?_
                refine X_istore_n Γ d_B_replicasInSync_68 rfl (by decide) rfl rfl ?_
                refine X_loc [2, 3, 4, 0, 5, 1] rfl ?_
                exact J69 (v3_10 ||| (1 <<< (v4_10 &&& 31))) trivial E
        refine X_icmp_le (tgt := 33) Γ d_B_replicasInSync_26 (by decide) rfl (fun h26 => ?_) (fun h26 => ?_)
        · replace E := E.trans (if_pos h26)
          refine X_iconst (v := 0) Γ d_B_replicasInSync_33 (by decide) rfl ?_
          refine X_loc [0, 1, 2, 3, 4] rfl ?_
          exact J34 0 trivial E
        · replace E := E.trans (if_neg h26)
          refine X_iconst (v := 1) Γ d_B_replicasInSync_29 (by decide) rfl ?_
          refine X_goto (pc' := 34) Γ d_B_replicasInSync_30 (by decide) ?_
          refine X_loc [0, 1, 2, 3, 4] rfl ?_
          exact J34 1 trivial E
  refine X_loc [2, 3, 4, 1, 0] rfl ?_
  exact J10 5 (1 <<< ((G n 0) &&& 31)) 0 (⟨by decide, by decide, by decide⟩) E
def f_B_isExpecting (n : Nat) (n1_ : Nat) (G : Nat → Nat → Int32) : Int32 := (if (G n 4) = 0 then 0 else (if ((f_B_leads n G)) = 0 then (if (G n 5) = (G n1_ 5) then (if (G n 9) = 0 then 0 else (if (G n 8) = (G n1_ 6) then 1 else 0)) else 0) else 0))
theorem e_B_isExpecting : y_B_isExpecting.cls ≠ "java/lang/invoke/MethodHandle" ∧ y_B_isExpecting.cls ≠ "java/lang/invoke/VarHandle" ∧ (parseMethodDescriptor y_B_isExpecting.desc).map (fun d => d.parameters.length) = some 1 := by decide +kernel
set_option maxHeartbeats 4000000 in
set_option maxRecDepth 100000 in
theorem m_B_isExpecting (l : Launch) (D : va_G) (cI cZ cB cM : ClassId) (a : Nat → Nat) (hJ : xJ 56 a) (P : Nat → Nat) (G : Nat → Nat → Int32) (n : Nat) (n_1 : 2 ≤ n) (n_2 : n < 6) (n1_ : Nat) (n1_1 : 29 ≤ n1_) (n1_2 : n1_ < 38) : Met l y_B_isExpecting (Cond.code y_B_isExpecting prog_2_method_11_code 2 (Option.some FieldType.boolean) :: wsBig) { frames := 1, cells := 0, slots := 0, locals := 20 } (xP D xcl (xty cI cZ cB cM) 56 a (kg (kC cI cB cM a P) G) [.ref (a n), .ref (a n1_)]) (xQi D xcl 56 a (f_B_isExpecting n n1_ G) (kg (kC cI cB cM a P) G)) 0 0 (xA 56 a) := by
  refine X_met (by decide) rfl (Nat.le_of_ble_eq_true rfl) hJ (fun Y s m args Γ => ?_)
  show X Y s m D xcl 56 a 2 (kg (kC cI cB cM a P) G) 0 [(0, .ref (a n)), (1, .ref (a n1_))] []
  have E := f_B_isExpecting.eq_1 n n1_ G
  refine X_aload_n Γ d_B_isExpecting_0 rfl 0 rfl rfl ?_
  refine X_get Γ d_B_isExpecting_1 (Nat.lt_of_lt_of_le n_2 (by decide : 6 ≤ 56)) (kC_B n_1 n_2) rfl in_B 4 (by decide) w154 rfl rfl rfl ?_
  refine X_if_eq (tgt := 47) Γ d_B_isExpecting_4 (by decide) rfl (fun h4 => ?_) (fun h4 => ?_)
  · replace E := E.trans (if_pos h4)
    refine X_iconst (v := 0) Γ d_B_isExpecting_47 (by decide) rfl ?_
    exact X_iretz Γ d_B_isExpecting_48 rfl E.symm rfl
  · replace E := E.trans (if_neg h4)
    refine X_aload_n Γ d_B_isExpecting_7 rfl 0 rfl rfl ?_
    refine X_callVi (rest := []) Γ d_B_isExpecting_8 (m_B_leads l D cI cZ cB cM a hJ P G n n_1 n_2) (Nat.lt_of_lt_of_le n_2 (by decide : 6 ≤ 56)) (kC_B n_1 n_2) rfl rfl w364 w230 s_B_leads w6 w231 e_B_leads ⟨by decide, by decide⟩ ⟨rfl, rfl⟩ rfl rfl (Nat.le_of_ble_eq_true rfl) rfl ?_
    refine X_if_ne (tgt := 47) Γ d_B_isExpecting_11 (by decide) rfl (fun h11 => ?_) (fun h11 => ?_)
    · replace E := E.trans (if_neg h11)
      refine X_iconst (v := 0) Γ d_B_isExpecting_47 (by decide) rfl ?_
      exact X_iretz Γ d_B_isExpecting_48 rfl E.symm rfl
    · replace E := E.trans (if_pos h11)
      refine X_aload_n Γ d_B_isExpecting_14 rfl 0 rfl rfl ?_
      refine X_get Γ d_B_isExpecting_15 (Nat.lt_of_lt_of_le n_2 (by decide : 6 ≤ 56)) (kC_B n_1 n_2) rfl in_B 5 (by decide) w156 rfl rfl rfl ?_
      refine X_aload_n Γ d_B_isExpecting_18 rfl 1 rfl rfl ?_
      refine X_getN Γ d_B_isExpecting_19 (Nat.lt_of_lt_of_le n1_2 (by decide : 38 ≤ 56)) (kC_G n1_1 n1_2) rfl in_G 5 (by decide) w77 rfl rfl rfl ?_
      refine X_icmp_ne (tgt := 47) Γ d_B_isExpecting_22 (by decide) rfl (fun h22 => ?_) (fun h22 => ?_)
      · replace E := E.trans (if_neg h22)
        refine X_iconst (v := 0) Γ d_B_isExpecting_47 (by decide) rfl ?_
        exact X_iretz Γ d_B_isExpecting_48 rfl E.symm rfl
      · replace E := E.trans (if_pos h22)
        refine X_aload_n Γ d_B_isExpecting_25 rfl 0 rfl rfl ?_
        refine X_get Γ d_B_isExpecting_26 (Nat.lt_of_lt_of_le n_2 (by decide : 6 ≤ 56)) (kC_B n_1 n_2) rfl in_B 9 (by decide) w165 rfl rfl rfl ?_
        refine X_if_eq (tgt := 47) Γ d_B_isExpecting_29 (by decide) rfl (fun h29 => ?_) (fun h29 => ?_)
        · replace E := E.trans (if_pos h29)
          refine X_iconst (v := 0) Γ d_B_isExpecting_47 (by decide) rfl ?_
          exact X_iretz Γ d_B_isExpecting_48 rfl E.symm rfl
        · replace E := E.trans (if_neg h29)
          refine X_aload_n Γ d_B_isExpecting_32 rfl 0 rfl rfl ?_
          refine X_get Γ d_B_isExpecting_33 (Nat.lt_of_lt_of_le n_2 (by decide : 6 ≤ 56)) (kC_B n_1 n_2) rfl in_B 8 (by decide) w163 rfl rfl rfl ?_
          refine X_aload_n Γ d_B_isExpecting_36 rfl 1 rfl rfl ?_
          refine X_getN Γ d_B_isExpecting_37 (Nat.lt_of_lt_of_le n1_2 (by decide : 38 ≤ 56)) (kC_G n1_1 n1_2) rfl in_G 6 (by decide) w81 rfl rfl rfl ?_
          refine X_icmp_ne (tgt := 47) Γ d_B_isExpecting_40 (by decide) rfl (fun h40 => ?_) (fun h40 => ?_)
          · replace E := E.trans (if_neg h40)
            refine X_iconst (v := 0) Γ d_B_isExpecting_47 (by decide) rfl ?_
            exact X_iretz Γ d_B_isExpecting_48 rfl E.symm rfl
          · replace E := E.trans (if_pos h40)
            refine X_iconst (v := 1) Γ d_B_isExpecting_43 (by decide) rfl ?_
            refine X_goto (pc' := 48) Γ d_B_isExpecting_44 (by decide) ?_
            exact X_iretz Γ d_B_isExpecting_48 rfl E.symm rfl
theorem raise_10 {n : Nat} {G : Nat → Nat → Int32} : ∀ (k : Nat) (v w : Int32), ∃ x : Int32, f_B_raiseHw_10 n G k v w = g2 G n 7 x ∨ f_B_raiseHw_10 n G k v w = G := by
  intro k
  induction k with
  | zero => intro v w; exact ⟨0, Or.inr rfl⟩
  | succ k ih =>
    intro v w
    rw [f_B_raiseHw_10]
    by_cases h : 4 ≤ w
    · rw [if_pos h]; exact ⟨_, Or.inl rfl⟩
    · rw [if_neg h]
      simp only [jn]
      split
      · exact ih _ _
      · split
        · exact ih _ _
        · exact ih _ _
theorem raise_ne {n i : Nat} {G : Nat → Nat → Int32} (h : i ≠ n) : f_B_raiseHw n G i = G i := by
  unfold f_B_raiseHw
  obtain ⟨x, e | e⟩ := raise_10 (n := n) (G := G) 5 (G (n + 4) 2) 0
  · rw [e, g2_ne _ _ _ h]
  · rw [e]
theorem nf_ne {n i : Nat} {x1 x2 x3 : Int32} {G : Nat → Nat → Int32} (h0 : i ≠ n) (h1 : i ≠ n + 16) (h2 : i ≠ n + 20) : f_B_noteFetched n x1 x2 x3 G i = G i := by
  unfold f_B_noteFetched
  split <;> split <;> first | rw [raise_ne h0, g2_ne _ _ _ h2, g2_ne _ _ _ h1] | rw [raise_ne h0, g2_ne _ _ _ h1]
theorem okL_nf {n : Nat} {x1 x2 x3 : Int32} {G : Nat → Nat → Int32} (h : okL G (n + 4)) (_n1 : 2 ≤ n) (_n2 : n < 6) : okL (f_B_noteFetched n x1 x2 x3 G) (n + 4) := okL_of h (nf_ne (by omega) (by omega) (by omega))
end
section
def f_G_word (n : Nat) (x1 : Int32) (G : Nat → Nat → Int32) : Int32 := (if x1 = 0 then (G n 2) else (if x1 = 1 then (G n 3) else (if x1 = 2 then (G n 4) else (if x1 = 3 then (G n 5) else (if x1 = 4 then (G n 6) else (if x1 = 5 then (G n 7) else (if x1 = 6 then (G n 8) else (-1))))))))
theorem e_G_word : y_G_word.cls ≠ "java/lang/invoke/MethodHandle" ∧ y_G_word.cls ≠ "java/lang/invoke/VarHandle" ∧ (parseMethodDescriptor y_G_word.desc).map (fun d => d.parameters.length) = some 1 := by decide +kernel
set_option maxHeartbeats 4000000 in
set_option maxRecDepth 100000 in
theorem m_G_word (l : Launch) (D : va_G) (cI cZ cB cM : ClassId) (a : Nat → Nat) (hJ : xJ 56 a) (P : Nat → Nat) (G : Nat → Nat → Int32) (n : Nat) (n_1 : 29 ≤ n) (n_2 : n < 38) (x1 : Int32) : Met l y_G_word (Cond.code y_G_word prog_6_method_2_code 2 (Option.some FieldType.int) :: wsBig) { frames := 0, cells := 0, slots := 0, locals := 0 } (xP D xcl (xty cI cZ cB cM) 56 a (kg (kC cI cB cM a P) G) [.ref (a n), .int x1]) (xQi D xcl 56 a (f_G_word n x1 G) (kg (kC cI cB cM a P) G)) 0 0 (xA 56 a) := by
  refine X_met (by decide) rfl (Nat.le_of_ble_eq_true rfl) hJ (fun Y s m args Γ => ?_)
  show X Y s m D xcl 56 a 2 (kg (kC cI cB cM a P) G) 0 [(0, .ref (a n)), (1, .int x1)] []
  have E := f_G_word.eq_1 n x1 G
  refine X_iload_n Γ d_G_word_0 rfl 1 rfl rfl ?_
  by_cases h1_0 : x1 = 0
  · replace E := E.trans (if_pos h1_0)
    refine X_tableIn (pc' := 44) (off := 43) Γ d_G_word_1 h1_0 (by decide) (by decide) (by decide) (by decide) ?_
    refine X_aload_n Γ d_G_word_44 rfl 0 rfl rfl ?_
    refine X_get Γ d_G_word_45 (Nat.lt_of_lt_of_le n_2 (by decide : 38 ≤ 56)) (kC_G n_1 n_2) rfl in_G 2 (by decide) w65 rfl rfl rfl ?_
    exact X_ireti Γ d_G_word_48 E.symm rfl
  replace E := E.trans (if_neg h1_0)
  by_cases h1_1 : x1 = 1
  · replace E := E.trans (if_pos h1_1)
    refine X_tableIn (pc' := 49) (off := 48) Γ d_G_word_1 h1_1 (by decide) (by decide) (by decide) (by decide) ?_
    refine X_aload_n Γ d_G_word_49 rfl 0 rfl rfl ?_
    refine X_get Γ d_G_word_50 (Nat.lt_of_lt_of_le n_2 (by decide : 38 ≤ 56)) (kC_G n_1 n_2) rfl in_G 3 (by decide) w69 rfl rfl rfl ?_
    exact X_ireti Γ d_G_word_53 E.symm rfl
  replace E := E.trans (if_neg h1_1)
  by_cases h1_2 : x1 = 2
  · replace E := E.trans (if_pos h1_2)
    refine X_tableIn (pc' := 54) (off := 53) Γ d_G_word_1 h1_2 (by decide) (by decide) (by decide) (by decide) ?_
    refine X_aload_n Γ d_G_word_54 rfl 0 rfl rfl ?_
    refine X_get Γ d_G_word_55 (Nat.lt_of_lt_of_le n_2 (by decide : 38 ≤ 56)) (kC_G n_1 n_2) rfl in_G 4 (by decide) w72 rfl rfl rfl ?_
    exact X_ireti Γ d_G_word_58 E.symm rfl
  replace E := E.trans (if_neg h1_2)
  by_cases h1_3 : x1 = 3
  · replace E := E.trans (if_pos h1_3)
    refine X_tableIn (pc' := 59) (off := 58) Γ d_G_word_1 h1_3 (by decide) (by decide) (by decide) (by decide) ?_
    refine X_aload_n Γ d_G_word_59 rfl 0 rfl rfl ?_
    refine X_get Γ d_G_word_60 (Nat.lt_of_lt_of_le n_2 (by decide : 38 ≤ 56)) (kC_G n_1 n_2) rfl in_G 5 (by decide) w75 rfl rfl rfl ?_
    exact X_ireti Γ d_G_word_63 E.symm rfl
  replace E := E.trans (if_neg h1_3)
  by_cases h1_4 : x1 = 4
  · replace E := E.trans (if_pos h1_4)
    refine X_tableIn (pc' := 64) (off := 63) Γ d_G_word_1 h1_4 (by decide) (by decide) (by decide) (by decide) ?_
    refine X_aload_n Γ d_G_word_64 rfl 0 rfl rfl ?_
    refine X_get Γ d_G_word_65 (Nat.lt_of_lt_of_le n_2 (by decide : 38 ≤ 56)) (kC_G n_1 n_2) rfl in_G 6 (by decide) w79 rfl rfl rfl ?_
    exact X_ireti Γ d_G_word_68 E.symm rfl
  replace E := E.trans (if_neg h1_4)
  by_cases h1_5 : x1 = 5
  · replace E := E.trans (if_pos h1_5)
    refine X_tableIn (pc' := 69) (off := 68) Γ d_G_word_1 h1_5 (by decide) (by decide) (by decide) (by decide) ?_
    refine X_aload_n Γ d_G_word_69 rfl 0 rfl rfl ?_
    refine X_get Γ d_G_word_70 (Nat.lt_of_lt_of_le n_2 (by decide : 38 ≤ 56)) (kC_G n_1 n_2) rfl in_G 7 (by decide) w83 rfl rfl rfl ?_
    exact X_ireti Γ d_G_word_73 E.symm rfl
  replace E := E.trans (if_neg h1_5)
  by_cases h1_6 : x1 = 6
  · replace E := E.trans (if_pos h1_6)
    refine X_tableIn (pc' := 74) (off := 73) Γ d_G_word_1 h1_6 (by decide) (by decide) (by decide) (by decide) ?_
    refine X_aload_n Γ d_G_word_74 rfl 0 rfl rfl ?_
    refine X_get Γ d_G_word_75 (Nat.lt_of_lt_of_le n_2 (by decide : 38 ≤ 56)) (kC_G n_1 n_2) rfl in_G 8 (by decide) w87 rfl rfl rfl ?_
    exact X_ireti Γ d_G_word_78 E.symm rfl
  replace E := E.trans (if_neg h1_6)
  refine X_tableOut (pc' := 79) Γ d_G_word_1 (tb_0_6 h1_0 h1_1 h1_2 h1_3 h1_4 h1_5 h1_6) (by decide) ?_
  refine X_iconst (v := (-1)) Γ d_G_word_79 (by decide) rfl ?_
  exact X_ireti Γ d_G_word_80 E.symm rfl
def f_G_copyRecords_2 (n : Nat) (n1_ : Nat) (x2 : Int32) (G : Nat → Nat → Int32) : Nat → Int32 → (Nat → Nat → Int32) → (Nat → Nat → Int32)
  | 0, v3_2, Gv2 => Gv2
  | k2 + 1, v3_2, Gv2 => (if (Gv2 n 7) ≤ v3_2 then Gv2 else (if 3 ≤ v3_2 then Gv2 else (f_G_copyRecords_2 n n1_ x2 G k2 (v3_2 + 1) (g2 (g2 Gv2 (n + 9) v3_2.toNatClampNeg ((f_L_stampOf n1_ (x2 + v3_2) Gv2))) (n + 18) v3_2.toNatClampNeg ((f_L_valueOf n1_ (x2 + v3_2) (g2 Gv2 (n + 9) v3_2.toNatClampNeg ((f_L_stampOf n1_ (x2 + v3_2) Gv2)))))))))
def f_G_copyRecords (n : Nat) (n1_ : Nat) (x2 : Int32) (G : Nat → Nat → Int32) : (Nat → Nat → Int32) := (f_G_copyRecords_2 n n1_ x2 G 4 0 G)
theorem e_G_copyRecords : y_G_copyRecords.cls ≠ "java/lang/invoke/MethodHandle" ∧ y_G_copyRecords.cls ≠ "java/lang/invoke/VarHandle" ∧ (parseMethodDescriptor y_G_copyRecords.desc).map (fun d => d.parameters.length) = some 2 := by decide +kernel
set_option maxHeartbeats 4000000 in
set_option maxRecDepth 100000 in
theorem m_G_copyRecords (l : Launch) (D : va_G) (cI cZ cB cM : ClassId) (a : Nat → Nat) (hJ : xJ 56 a) (P : Nat → Nat) (G : Nat → Nat → Int32) (n : Nat) (n_1 : 29 ≤ n) (n_2 : n < 38) (n1_ : Nat) (n1_1 : 6 ≤ n1_) (n1_2 : n1_ < 10) (x2 : Int32) (hE : okL G n1_) : Met l y_G_copyRecords (Cond.code y_G_copyRecords prog_6_method_3_code 4 (Option.none : Option FieldType) :: wsBig) { frames := 2, cells := 0, slots := 0, locals := 42 } (xP D xcl (xty cI cZ cB cM) 56 a (kg (kC cI cB cM a P) G) [.ref (a n), .ref (a n1_), .int x2]) (xQv D xcl 56 a (kg (kC cI cB cM a P) (f_G_copyRecords n n1_ x2 G))) 0 0 (xA 56 a) := by
  refine X_met (by decide) rfl (Nat.le_of_ble_eq_true rfl) hJ (fun Y s m args Γ => ?_)
  show X Y s m D xcl 56 a 4 (kg (kC cI cB cM a P) G) 0 [(0, .ref (a n)), (1, .ref (a n1_)), (2, .int x2)] []
  have E := f_G_copyRecords.eq_1 n n1_ x2 G
  refine X_iconst (v := 0) Γ d_G_copyRecords_0 (by decide) rfl ?_
  refine X_istore_n Γ d_G_copyRecords_1 rfl (by decide) rfl rfl ?_
  have J2 : ∀ (k2 : Nat) (v3_2 : Int32) (Gv2 : Nat → Nat → Int32), (0 < k2 ∧ k2 ≤ 4 ∧ v3_2 = nI (4 - k2) ∧ okL Gv2 n1_) → f_G_copyRecords n n1_ x2 G = f_G_copyRecords_2 n n1_ x2 G k2 v3_2 Gv2 → X Y s m D xcl 56 a 4 (kg (kC cI cB cM a P) Gv2) 2 [(0, .ref (a n)), (1, .ref (a n1_)), (2, .int x2), (3, .int v3_2)] [] := by
    intro k2
    induction k2 with
    | zero => exact fun v3_2 Gv2 hI2 _ => absurd hI2 (fun h => Nat.lt_irrefl 0 h.1)
    | succ k2 ih2 =>
      intro v3_2 Gv2 hI2 E
      rw [f_G_copyRecords_2] at E
      refine X_iload_n Γ d_G_copyRecords_2 rfl 3 rfl rfl ?_
      refine X_aload_n Γ d_G_copyRecords_3 rfl 0 rfl rfl ?_
      refine X_get Γ d_G_copyRecords_4 (Nat.lt_of_lt_of_le n_2 (by decide : 38 ≤ 56)) (kC_G n_1 n_2) rfl in_G 7 (by decide) w83 rfl rfl rfl ?_
      refine X_icmp_ge (tgt := 47) Γ d_G_copyRecords_7 (by decide) rfl (fun h7 => ?_) (fun h7 => ?_)
      · replace E := E.trans (if_pos h7)
        exact X_vret Γ d_G_copyRecords_47 (gv_eq E)
      · replace E := E.trans (if_neg h7)
        refine X_iload_n Γ d_G_copyRecords_10 rfl 3 rfl rfl ?_
        refine X_iconst (v := 3) Γ d_G_copyRecords_11 (by decide) rfl ?_
        refine X_icmp_ge (tgt := 47) Γ d_G_copyRecords_12 (by decide) rfl (fun h12 => ?_) (fun h12 => ?_)
        · replace E := E.trans (if_pos h12)
          exact X_vret Γ d_G_copyRecords_47 (gv_eq E)
        · replace E := E.trans (if_neg h12)
          refine X_aload_n Γ d_G_copyRecords_15 rfl 0 rfl rfl ?_
          refine X_get Γ d_G_copyRecords_16 (Nat.lt_of_lt_of_le n_2 (by decide : 38 ≤ 56)) (kC_G n_1 n_2) rfl in_G 0 (by decide) w63 rfl rfl rfl ?_
          refine X_iload_n Γ d_G_copyRecords_19 rfl 3 rfl rfl ?_
          refine X_aload_n Γ d_G_copyRecords_20 rfl 1 rfl rfl ?_
          refine X_iload_n Γ d_G_copyRecords_21 rfl 2 rfl rfl ?_
          refine X_iload_n Γ d_G_copyRecords_22 rfl 3 rfl rfl ?_
          refine X_iadd Γ d_G_copyRecords_23 rfl ?_
          refine X_callVNi (rest := [.int v3_2, .ref (a (n + 9))]) Γ d_G_copyRecords_24 (m_L_stampOf l D cI cZ cB cM a hJ P Gv2 n1_ n1_1 n1_2 (x2 + v3_2) hI2.2.2.2) (Nat.lt_of_lt_of_le n1_2 (by decide : 10 ≤ 56)) (kC_L n1_1 n1_2) rfl rfl w345 w278 s_L_stampOf w7 w279 e_L_stampOf ⟨by decide, by decide⟩ ⟨rfl, rfl⟩ rfl rfl (Nat.le_of_ble_eq_true rfl) rfl ?_
          refine X_iast (kx := v3_2.toNatClampNeg) Γ d_G_copyRecords_27 (Nat.lt_of_lt_of_le (Nat.lt_of_lt_of_le (Nat.add_lt_add_right n_2 9) (by decide : 38 + 9 ≤ 56)) (by decide : 56 ≤ 56)) (kC_A3 (Nat.le_trans (by decide : 38 ≤ 29 + 9) (Nat.add_le_add_right n_1 9)) (Nat.lt_of_lt_of_le (Nat.add_lt_add_right n_2 9) (by decide : 38 + 9 ≤ 56))) 0 rfl (lc_in (by decide) (by decide) hI2.2.1 hI2.2.2.1 h12) (fun _ => (kC_A3 (Nat.le_trans (by decide : 38 ≤ 29 + 9) (Nat.add_le_add_right n_1 9)) (Nat.lt_of_lt_of_le (Nat.add_lt_add_right n_2 9) (by decide : 38 + 9 ≤ 56)))) rfl rfl ?_
          refine X_aload_n Γ d_G_copyRecords_28 rfl 0 rfl rfl ?_
          refine X_get Γ d_G_copyRecords_29 (Nat.lt_of_lt_of_le n_2 (by decide : 38 ≤ 56)) (kC_G n_1 n_2) rfl in_G 1 (by decide) w64 rfl rfl rfl ?_
          refine X_iload_n Γ d_G_copyRecords_32 rfl 3 rfl rfl ?_
          refine X_aload_n Γ d_G_copyRecords_33 rfl 1 rfl rfl ?_
          refine X_iload_n Γ d_G_copyRecords_34 rfl 2 rfl rfl ?_
          refine X_iload_n Γ d_G_copyRecords_35 rfl 3 rfl rfl ?_
          refine X_iadd Γ d_G_copyRecords_36 rfl ?_
          refine X_callVNi (rest := [.int v3_2, .ref (a (n + 18))]) Γ d_G_copyRecords_37 (m_L_valueOf l D cI cZ cB cM a hJ P (g2 Gv2 (n + 9) v3_2.toNatClampNeg ((f_L_stampOf n1_ (x2 + v3_2) Gv2))) n1_ n1_1 n1_2 (x2 + v3_2) (okL_g2 hI2.2.2.2 (by omega))) (Nat.lt_of_lt_of_le n1_2 (by decide : 10 ≤ 56)) (kC_L n1_1 n1_2) rfl rfl w346 w287 s_L_valueOf w7 w288 e_L_valueOf ⟨by decide, by decide⟩ ⟨rfl, rfl⟩ rfl rfl (Nat.le_of_ble_eq_true rfl) rfl ?_
          refine X_iast (kx := v3_2.toNatClampNeg) Γ d_G_copyRecords_40 (Nat.lt_of_lt_of_le (Nat.lt_of_lt_of_le (Nat.add_lt_add_right n_2 18) (by decide : 38 + 18 ≤ 56)) (by decide : 56 ≤ 56)) (kC_A3 (Nat.le_trans (by decide : 38 ≤ 29 + 18) (Nat.add_le_add_right n_1 18)) (Nat.lt_of_lt_of_le (Nat.add_lt_add_right n_2 18) (by decide : 38 + 18 ≤ 56))) 0 rfl (lc_in (by decide) (by decide) hI2.2.1 hI2.2.2.1 h12) (fun _ => (kC_A3 (Nat.le_trans (by decide : 38 ≤ 29 + 18) (Nat.add_le_add_right n_1 18)) (Nat.lt_of_lt_of_le (Nat.add_lt_add_right n_2 18) (by decide : 38 + 18 ≤ 56)))) rfl rfl ?_
          refine X_iinc (v := (v3_2 + 1)) Γ d_G_copyRecords_41 3 rfl rfl (by decide) rfl rfl ?_
          refine X_goto (pc' := 2) Γ d_G_copyRecords_44 (by decide) ?_
          refine X_loc [1, 2, 3, 0] rfl ?_
          exact ih2 (v3_2 + 1) (g2 (g2 Gv2 (n + 9) v3_2.toNatClampNeg ((f_L_stampOf n1_ (x2 + v3_2) Gv2))) (n + 18) v3_2.toNatClampNeg ((f_L_valueOf n1_ (x2 + v3_2) (g2 Gv2 (n + 9) v3_2.toNatClampNeg ((f_L_stampOf n1_ (x2 + v3_2) Gv2)))))) (⟨(lc_step (by decide) (by decide) hI2.1 hI2.2.1 hI2.2.2.1 h12).1, (lc_step (by decide) (by decide) hI2.1 hI2.2.1 hI2.2.2.1 h12).2.1, (lc_step (by decide) (by decide) hI2.1 hI2.2.1 hI2.2.2.1 h12).2.2, okL_g2 (okL_g2 hI2.2.2.2 (by omega)) (by omega)⟩) E
  refine X_loc [1, 2, 3, 0] rfl ?_
  exact J2 4 0 G (⟨by decide, by decide, by decide, hE⟩) E
def f_G_appendRecords_2 (n : Nat) (n1_ : Nat) (G : Nat → Nat → Int32) : Nat → Int32 → (Nat → Nat → Int32) → (Nat → Nat → Int32)
  | 0, v2_2, Gv2 => Gv2
  | k2 + 1, v2_2, Gv2 => (if (Gv2 n 7) ≤ v2_2 then Gv2 else (if 3 ≤ v2_2 then Gv2 else (f_G_appendRecords_2 n n1_ G k2 (v2_2 + 1) ((f_L_add n1_ (Gv2 (n + 9) v2_2.toNatClampNeg) (Gv2 (n + 18) v2_2.toNatClampNeg) Gv2)))))
def f_G_appendRecords (n : Nat) (n1_ : Nat) (G : Nat → Nat → Int32) : (Nat → Nat → Int32) := (f_G_appendRecords_2 n n1_ G 4 0 G)
theorem e_G_appendRecords : y_G_appendRecords.cls ≠ "java/lang/invoke/MethodHandle" ∧ y_G_appendRecords.cls ≠ "java/lang/invoke/VarHandle" ∧ (parseMethodDescriptor y_G_appendRecords.desc).map (fun d => d.parameters.length) = some 1 := by decide +kernel
set_option maxHeartbeats 4000000 in
set_option maxRecDepth 100000 in
theorem m_G_appendRecords (l : Launch) (D : va_G) (cI cZ cB cM : ClassId) (a : Nat → Nat) (hJ : xJ 56 a) (P : Nat → Nat) (G : Nat → Nat → Int32) (n : Nat) (n_1 : 29 ≤ n) (n_2 : n < 38) (n1_ : Nat) (n1_1 : 6 ≤ n1_) (n1_2 : n1_ < 10) (hE : okL G n1_) : Met l y_G_appendRecords (Cond.code y_G_appendRecords prog_6_method_4_code 3 (Option.none : Option FieldType) :: wsBig) { frames := 2, cells := 0, slots := 0, locals := 42 } (xP D xcl (xty cI cZ cB cM) 56 a (kg (kC cI cB cM a P) G) [.ref (a n), .ref (a n1_)]) (xQv D xcl 56 a (kg (kC cI cB cM a P) (f_G_appendRecords n n1_ G))) 0 0 (xA 56 a) := by
  refine X_met (by decide) rfl (Nat.le_of_ble_eq_true rfl) hJ (fun Y s m args Γ => ?_)
  show X Y s m D xcl 56 a 3 (kg (kC cI cB cM a P) G) 0 [(0, .ref (a n)), (1, .ref (a n1_))] []
  have E := f_G_appendRecords.eq_1 n n1_ G
  refine X_iconst (v := 0) Γ d_G_appendRecords_0 (by decide) rfl ?_
  refine X_istore_n Γ d_G_appendRecords_1 rfl (by decide) rfl rfl ?_
  have J2 : ∀ (k2 : Nat) (v2_2 : Int32) (Gv2 : Nat → Nat → Int32), (0 < k2 ∧ k2 ≤ 4 ∧ v2_2 = nI (4 - k2) ∧ okL Gv2 n1_) → f_G_appendRecords n n1_ G = f_G_appendRecords_2 n n1_ G k2 v2_2 Gv2 → X Y s m D xcl 56 a 3 (kg (kC cI cB cM a P) Gv2) 2 [(0, .ref (a n)), (1, .ref (a n1_)), (2, .int v2_2)] [] := by
    intro k2
    induction k2 with
    | zero => exact fun v2_2 Gv2 hI2 _ => absurd hI2 (fun h => Nat.lt_irrefl 0 h.1)
    | succ k2 ih2 =>
      intro v2_2 Gv2 hI2 E
      rw [f_G_appendRecords_2] at E
      refine X_iload_n Γ d_G_appendRecords_2 rfl 2 rfl rfl ?_
      refine X_aload_n Γ d_G_appendRecords_3 rfl 0 rfl rfl ?_
      refine X_get Γ d_G_appendRecords_4 (Nat.lt_of_lt_of_le n_2 (by decide : 38 ≤ 56)) (kC_G n_1 n_2) rfl in_G 7 (by decide) w83 rfl rfl rfl ?_
      refine X_icmp_ge (tgt := 37) Γ d_G_appendRecords_7 (by decide) rfl (fun h7 => ?_) (fun h7 => ?_)
      · replace E := E.trans (if_pos h7)
        exact X_vret Γ d_G_appendRecords_37 (gv_eq E)
      · replace E := E.trans (if_neg h7)
        refine X_iload_n Γ d_G_appendRecords_10 rfl 2 rfl rfl ?_
        refine X_iconst (v := 3) Γ d_G_appendRecords_11 (by decide) rfl ?_
        refine X_icmp_ge (tgt := 37) Γ d_G_appendRecords_12 (by decide) rfl (fun h12 => ?_) (fun h12 => ?_)
        · replace E := E.trans (if_pos h12)
          exact X_vret Γ d_G_appendRecords_37 (gv_eq E)
        · replace E := E.trans (if_neg h12)
          refine X_aload_n Γ d_G_appendRecords_15 rfl 1 rfl rfl ?_
          refine X_aload_n Γ d_G_appendRecords_16 rfl 0 rfl rfl ?_
          refine X_get Γ d_G_appendRecords_17 (Nat.lt_of_lt_of_le n_2 (by decide : 38 ≤ 56)) (kC_G n_1 n_2) rfl in_G 0 (by decide) w63 rfl rfl rfl ?_
          refine X_iload_n Γ d_G_appendRecords_20 rfl 2 rfl rfl ?_
          refine X_iald (v := (Gv2 (n + 9) v2_2.toNatClampNeg)) Γ d_G_appendRecords_21 (Nat.lt_of_lt_of_le (Nat.lt_of_lt_of_le (Nat.add_lt_add_right n_2 9) (by decide : 38 + 9 ≤ 56)) (by decide : 56 ≤ 56)) (kC_A3 (Nat.le_trans (by decide : 38 ≤ 29 + 9) (Nat.add_le_add_right n_1 9)) (Nat.lt_of_lt_of_le (Nat.add_lt_add_right n_2 9) (by decide : 38 + 9 ≤ 56))) 0 rfl (lc_in (by decide) (by decide) hI2.2.1 hI2.2.2.1 h12) rfl rfl ?_
          refine X_aload_n Γ d_G_appendRecords_22 rfl 0 rfl rfl ?_
          refine X_get Γ d_G_appendRecords_23 (Nat.lt_of_lt_of_le n_2 (by decide : 38 ≤ 56)) (kC_G n_1 n_2) rfl in_G 1 (by decide) w64 rfl rfl rfl ?_
          refine X_iload_n Γ d_G_appendRecords_26 rfl 2 rfl rfl ?_
          refine X_iald (v := (Gv2 (n + 18) v2_2.toNatClampNeg)) Γ d_G_appendRecords_27 (Nat.lt_of_lt_of_le (Nat.lt_of_lt_of_le (Nat.add_lt_add_right n_2 18) (by decide : 38 + 18 ≤ 56)) (by decide : 56 ≤ 56)) (kC_A3 (Nat.le_trans (by decide : 38 ≤ 29 + 18) (Nat.add_le_add_right n_1 18)) (Nat.lt_of_lt_of_le (Nat.add_lt_add_right n_2 18) (by decide : 38 + 18 ≤ 56))) 0 rfl (lc_in (by decide) (by decide) hI2.2.1 hI2.2.2.1 h12) rfl rfl ?_
          refine X_callVNv (rest := []) Γ d_G_appendRecords_28 (m_L_add l D cI cZ cB cM a hJ P Gv2 n1_ n1_1 n1_2 (Gv2 (n + 9) v2_2.toNatClampNeg) (Gv2 (n + 18) v2_2.toNatClampNeg) hI2.2.2.2) (Nat.lt_of_lt_of_le n1_2 (by decide : 10 ≤ 56)) (kC_L n1_1 n1_2) rfl rfl w375 w248 s_L_add w7 w249 e_L_add ⟨by decide, by decide⟩ ⟨rfl, rfl⟩ rfl rfl (Nat.le_of_ble_eq_true rfl) rfl ?_
          refine X_iinc (v := (v2_2 + 1)) Γ d_G_appendRecords_31 2 rfl rfl (by decide) rfl rfl ?_
          refine X_goto (pc' := 2) Γ d_G_appendRecords_34 (by decide) ?_
          refine X_loc [1, 2, 0] rfl ?_
          exact ih2 (v2_2 + 1) ((f_L_add n1_ (Gv2 (n + 9) v2_2.toNatClampNeg) (Gv2 (n + 18) v2_2.toNatClampNeg) Gv2)) (⟨(lc_step (by decide) (by decide) hI2.1 hI2.2.1 hI2.2.2.1 h12).1, (lc_step (by decide) (by decide) hI2.1 hI2.2.1 hI2.2.2.1 h12).2.1, (lc_step (by decide) (by decide) hI2.1 hI2.2.1 hI2.2.2.1 h12).2.2, okL_add hI2.2.2.2⟩) E
  refine X_loc [1, 2, 0] rfl ?_
  exact J2 4 0 G (⟨by decide, by decide, by decide, hE⟩) E
end
section
def f_T_begin (x1 : Int32) (x2 : Int32) (G : Nat → Nat → Int32) : Int32 × (Nat → Nat → Int32) := (1, (g2 (g2 (g2 G 26 1 x1) 26 2 x2) 26 0 (((g2 (g2 G 26 1 x1) 26 2 x2) 26 0) + 1)))
theorem e_T_begin : y_T_begin.cls ≠ "java/lang/invoke/MethodHandle" ∧ y_T_begin.cls ≠ "java/lang/invoke/VarHandle" ∧ (parseMethodDescriptor y_T_begin.desc).map (fun d => d.parameters.length) = some 2 := by decide +kernel
set_option maxHeartbeats 4000000 in
set_option maxRecDepth 100000 in
theorem m_T_begin (l : Launch) (D : va_G) (cI cZ cB cM : ClassId) (a : Nat → Nat) (hJ : xJ 56 a) (P : Nat → Nat) (G : Nat → Nat → Int32) (x1 : Int32) (x2 : Int32) : Met l y_T_begin (Cond.code y_T_begin prog_4_method_3_code 3 (Option.some FieldType.boolean) :: wsBig) { frames := 0, cells := 0, slots := 0, locals := 0 } (xP D xcl (xty cI cZ cB cM) 56 a (kg (kC cI cB cM a P) G) [.ref (a 26), .int x1, .int x2]) (xQi D xcl 56 a ((f_T_begin x1 x2 G).1) (kg (kC cI cB cM a P) ((f_T_begin x1 x2 G).2))) 0 0 (xA 56 a) := by
  refine X_met (by decide) rfl (Nat.le_of_ble_eq_true rfl) hJ (fun Y s m args Γ => ?_)
  show X Y s m D xcl 56 a 3 (kg (kC cI cB cM a P) G) 0 [(0, .ref (a 26)), (1, .int x1), (2, .int x2)] []
  have E := f_T_begin.eq_1 x1 x2 G
  refine X_aload_n Γ d_T_begin_0 rfl 0 rfl rfl ?_
  refine X_iload_n Γ d_T_begin_1 rfl 1 rfl rfl ?_
  refine X_put (ty := .int) Γ d_T_begin_2 (by decide) kC_T rfl in_T 1 (by decide) w37 rfl ty_T ty_T_ok nm_T rfl (by decide +kernel) rfl rfl (Nat.le_of_ble_eq_true rfl) kp_T_1 rfl ?_
  refine X_aload_n Γ d_T_begin_5 rfl 0 rfl rfl ?_
  refine X_iload_n Γ d_T_begin_6 rfl 2 rfl rfl ?_
  refine X_put (ty := .int) Γ d_T_begin_7 (by decide) kC_T rfl in_T 2 (by decide) w40 rfl ty_T ty_T_ok nm_T rfl (by decide +kernel) rfl rfl (Nat.le_of_ble_eq_true rfl) kp_T_2 rfl ?_
  refine X_aload_n Γ d_T_begin_10 rfl 0 rfl rfl ?_
  refine X_dup Γ d_T_begin_11 rfl rfl ?_
  refine X_get Γ d_T_begin_12 (by decide) kC_T rfl in_T 0 (by decide) w34 rfl rfl rfl ?_
  refine X_iconst (v := 1) Γ d_T_begin_15 (by decide) rfl ?_
  refine X_iadd Γ d_T_begin_16 rfl ?_
  refine X_put (ty := .int) Γ d_T_begin_17 (by decide) kC_T rfl in_T 0 (by decide) w34 rfl ty_T ty_T_ok nm_T rfl (by decide +kernel) rfl rfl (Nat.le_of_ble_eq_true rfl) kp_T_0 rfl ?_
  refine X_iconst (v := 1) Γ d_T_begin_20 (by decide) rfl ?_
  exact X_iretz Γ d_T_begin_21 rfl (g_r E) (g_eq E)
theorem nar_begin {x y : Int32} {G : Nat → Nat → Int32} : narrow .boolean (.int (f_T_begin x y G).1) = .int (f_T_begin x y G).1 := by
  unfold f_T_begin
  show narrow FieldType.boolean (Value.int 1) = Value.int 1
  rfl
def f_T_reactTo (x1 : Int32) (G : Nat → Nat → Int32) : Int32 × (Nat → Nat → Int32) := (jn (fun (t0_31 : Int32) => (if ((G 26 2) &&& x1) = 0 then (if (G 26 1) = (-1) then (0, G) else (if ((f_T_begin (-1) (G 26 2) G).1) = 0 then (0, ((f_T_begin (-1) (G 26 2) G).2)) else (1, ((f_T_begin (-1) (G 26 2) G).2)))) else (if t0_31 = 0 then (if t0_31 = 0 then (((f_T_begin ((f_I_leastOf ((G 26 2) &&& x1))) ((G 26 2) &&& x1) G).1), ((f_T_begin ((f_I_leastOf ((G 26 2) &&& x1))) ((G 26 2) &&& x1) G).2)) else (((f_T_begin (G 26 1) ((G 26 2) &&& x1) G).1), ((f_T_begin (G 26 1) ((G 26 2) &&& x1) G).2))) else (if ((G 26 2) &&& x1) = (G 26 2) then (0, G) else (if t0_31 = 0 then (((f_T_begin ((f_I_leastOf ((G 26 2) &&& x1))) ((G 26 2) &&& x1) G).1), ((f_T_begin ((f_I_leastOf ((G 26 2) &&& x1))) ((G 26 2) &&& x1) G).2)) else (((f_T_begin (G 26 1) ((G 26 2) &&& x1) G).1), ((f_T_begin (G 26 1) ((G 26 2) &&& x1) G).2))))))) (fun (j31 : Int32 → Int32 × (Nat → Nat → Int32)) => (if (G 26 1) = (-1) then (j31 0) else (if ((f_I_contains x1 (G 26 1))) = 0 then (j31 0) else (j31 1)))))
theorem e_T_reactTo : y_T_reactTo.cls ≠ "java/lang/invoke/MethodHandle" ∧ y_T_reactTo.cls ≠ "java/lang/invoke/VarHandle" ∧ (parseMethodDescriptor y_T_reactTo.desc).map (fun d => d.parameters.length) = some 1 := by decide +kernel
set_option maxHeartbeats 4000000 in
set_option maxRecDepth 100000 in
theorem m_T_reactTo (l : Launch) (D : va_G) (cI cZ cB cM : ClassId) (a : Nat → Nat) (hJ : xJ 56 a) (P : Nat → Nat) (G : Nat → Nat → Int32) (x1 : Int32) : Met l y_T_reactTo (Cond.code y_T_reactTo prog_4_method_2_code 4 (Option.some FieldType.boolean) :: wsBig) { frames := 2, cells := 0, slots := 0, locals := 42 } (xP D xcl (xty cI cZ cB cM) 56 a (kg (kC cI cB cM a P) G) [.ref (a 26), .int x1]) (xQi D xcl 56 a ((f_T_reactTo x1 G).1) (kg (kC cI cB cM a P) ((f_T_reactTo x1 G).2))) 0 0 (xA 56 a) := by
  refine X_met (by decide) rfl (Nat.le_of_ble_eq_true rfl) hJ (fun Y s m args Γ => ?_)
  show X Y s m D xcl 56 a 4 (kg (kC cI cB cM a P) G) 0 [(0, .ref (a 26)), (1, .int x1)] []
  have E := f_T_reactTo.eq_1 x1 G
  refine X_aload_n Γ d_T_reactTo_0 rfl 0 rfl rfl ?_
  refine X_get Γ d_T_reactTo_1 (by decide) kC_T rfl in_T 2 (by decide) w40 rfl rfl rfl ?_
  refine X_iload_n Γ d_T_reactTo_4 rfl 1 rfl rfl ?_
  refine X_iand Γ d_T_reactTo_5 rfl ?_
  refine X_istore_n Γ d_T_reactTo_6 rfl (by decide) rfl rfl ?_
  refine X_aload_n Γ d_T_reactTo_7 rfl 1 rfl rfl ?_
  refine X_get Γ d_T_reactTo_8 (by decide) kC_T rfl in_T 1 (by decide) w37 rfl rfl rfl ?_
  refine X_iconst (v := (-1)) Γ d_T_reactTo_11 (by decide) rfl ?_
  refine jn_open E (fun j31 ej31 E => ?_)
  have J31 : ∀ (t0_31 : Int32), (True) → f_T_reactTo x1 G = j31 t0_31 → X Y s m D xcl 56 a 4 (kg (kC cI cB cM a P) G) 31 [(0, .ref (a 26)), (1, .int x1), (2, .int ((G 26 2) &&& x1))] [.int t0_31] := by
    intro t0_31 hI31 E
    rw [ej31] at E
    refine X_istore_n Γ d_T_reactTo_31 rfl (by decide) rfl rfl ?_
    refine X_iload_n Γ d_T_reactTo_32 rfl 3 rfl rfl ?_
    refine X_if_ne (tgt := 62) Γ d_T_reactTo_33 (by decide) rfl (fun h33 => ?_) (fun h33 => ?_)
    · replace E := E.trans (if_neg h33)
      refine X_iload_n Γ d_T_reactTo_62 rfl 0 rfl rfl ?_
      refine X_if_eq (tgt := 76) Γ d_T_reactTo_63 (by decide) rfl (fun h63 => ?_) (fun h63 => ?_)
      · replace E := E.trans (if_pos h63)
        refine X_aload_n Γ d_T_reactTo_76 rfl 1 rfl rfl ?_
        refine X_iload_n Γ d_T_reactTo_77 rfl 0 rfl rfl ?_
        refine X_if_eq (tgt := 88) Γ d_T_reactTo_78 (by decide) rfl (fun h78 => ?_) (fun h78 => ?_)
        · replace E := E.trans (if_pos h78)
          refine X_iload_n Γ d_T_reactTo_88 rfl 3 rfl rfl ?_
          refine X_callSNi (rest := [.ref (a 26)]) Γ d_T_reactTo_89 (m_I_leastOf l D _ _ _ _ hJ _ _ ((G 26 2) &&& x1)) w439 w440 w1 w441 e_I_leastOf ⟨by decide, by decide⟩ ⟨rfl, rfl⟩ rfl rfl (Nat.le_of_ble_eq_true rfl) rfl ?_
          refine X_iload_n Γ d_T_reactTo_92 rfl 3 rfl rfl ?_
          refine X_callVi (rest := []) Γ d_T_reactTo_93 (m_T_begin l D cI cZ cB cM a hJ P G ((f_I_leastOf ((G 26 2) &&& x1))) ((G 26 2) &&& x1)) (by decide) kC_T rfl rfl w435 w437 s_T_begin w3 w438 e_T_begin ⟨by decide, by decide⟩ ⟨rfl, rfl⟩ rfl rfl (Nat.le_of_ble_eq_true rfl) rfl ?_
          exact X_iretz Γ d_T_reactTo_96 nar_begin (g_r E) (g_eq E)
        · replace E := E.trans (if_neg h78)
          refine X_aload_n Γ d_T_reactTo_81 rfl 1 rfl rfl ?_
          refine X_get Γ d_T_reactTo_82 (by decide) kC_T rfl in_T 1 (by decide) w37 rfl rfl rfl ?_
          refine X_goto (pc' := 92) Γ d_T_reactTo_85 (by decide) ?_
          refine X_iload_n Γ d_T_reactTo_92 rfl 3 rfl rfl ?_
          refine X_callVi (rest := []) Γ d_T_reactTo_93 (m_T_begin l D cI cZ cB cM a hJ P G (G 26 1) ((G 26 2) &&& x1)) (by decide) kC_T rfl rfl w435 w437 s_T_begin w3 w438 e_T_begin ⟨by decide, by decide⟩ ⟨rfl, rfl⟩ rfl rfl (Nat.le_of_ble_eq_true rfl) rfl ?_
          exact X_iretz Γ d_T_reactTo_96 nar_begin (g_r E) (g_eq E)
      · replace E := E.trans (if_neg h63)
        refine X_iload_n Γ d_T_reactTo_66 rfl 3 rfl rfl ?_
        refine X_aload_n Γ d_T_reactTo_67 rfl 1 rfl rfl ?_
        refine X_get Γ d_T_reactTo_68 (by decide) kC_T rfl in_T 2 (by decide) w40 rfl rfl rfl ?_
        refine X_icmp_ne (tgt := 76) Γ d_T_reactTo_71 (by decide) rfl (fun h71 => ?_) (fun h71 => ?_)
        · replace E := E.trans (if_neg h71)
          refine X_aload_n Γ d_T_reactTo_76 rfl 1 rfl rfl ?_
          refine X_iload_n Γ d_T_reactTo_77 rfl 0 rfl rfl ?_
          refine X_if_eq (tgt := 88) Γ d_T_reactTo_78 (by decide) rfl (fun h78 => ?_) (fun h78 => ?_)
          · replace E := E.trans (if_pos h78)
            refine X_iload_n Γ d_T_reactTo_88 rfl 3 rfl rfl ?_
            refine X_callSNi (rest := [.ref (a 26)]) Γ d_T_reactTo_89 (m_I_leastOf l D _ _ _ _ hJ _ _ ((G 26 2) &&& x1)) w439 w440 w1 w441 e_I_leastOf ⟨by decide, by decide⟩ ⟨rfl, rfl⟩ rfl rfl (Nat.le_of_ble_eq_true rfl) rfl ?_
            refine X_iload_n Γ d_T_reactTo_92 rfl 3 rfl rfl ?_
            refine X_callVi (rest := []) Γ d_T_reactTo_93 (m_T_begin l D cI cZ cB cM a hJ P G ((f_I_leastOf ((G 26 2) &&& x1))) ((G 26 2) &&& x1)) (by decide) kC_T rfl rfl w435 w437 s_T_begin w3 w438 e_T_begin ⟨by decide, by decide⟩ ⟨rfl, rfl⟩ rfl rfl (Nat.le_of_ble_eq_true rfl) rfl ?_
            exact X_iretz Γ d_T_reactTo_96 nar_begin (g_r E) (g_eq E)
          · replace E := E.trans (if_neg h78)
            refine X_aload_n Γ d_T_reactTo_81 rfl 1 rfl rfl ?_
            refine X_get Γ d_T_reactTo_82 (by decide) kC_T rfl in_T 1 (by decide) w37 rfl rfl rfl ?_
            refine X_goto (pc' := 92) Γ d_T_reactTo_85 (by decide) ?_
            refine X_iload_n Γ d_T_reactTo_92 rfl 3 rfl rfl ?_
            refine X_callVi (rest := []) Γ d_T_reactTo_93 (m_T_begin l D cI cZ cB cM a hJ P G (G 26 1) ((G 26 2) &&& x1)) (by decide) kC_T rfl rfl w435 w437 s_T_begin w3 w438 e_T_begin ⟨by decide, by decide⟩ ⟨rfl, rfl⟩ rfl rfl (Nat.le_of_ble_eq_true rfl) rfl ?_
            exact X_iretz Γ d_T_reactTo_96 nar_begin (g_r E) (g_eq E)
        · replace E := E.trans (if_pos h71)
          refine X_iconst (v := 0) Γ d_T_reactTo_74 (by decide) rfl ?_
          exact X_iretz Γ d_T_reactTo_75 rfl (g_r E) (g_eq E)
    · replace E := E.trans (if_pos h33)
      refine X_aload_n Γ d_T_reactTo_36 rfl 1 rfl rfl ?_
      refine X_get Γ d_T_reactTo_37 (by decide) kC_T rfl in_T 1 (by decide) w37 rfl rfl rfl ?_
      refine X_iconst (v := (-1)) Γ d_T_reactTo_40 (by decide) rfl ?_
      refine X_icmp_eq (tgt := 60) Γ d_T_reactTo_41 (by decide) rfl (fun h41 => ?_) (fun h41 => ?_)
      · replace E := E.trans (if_pos h41)
        refine X_iconst (v := 0) Γ d_T_reactTo_60 (by decide) rfl ?_
        exact X_iretz Γ d_T_reactTo_61 rfl (g_r E) (g_eq E)
      · replace E := E.trans (if_neg h41)
        refine X_aload_n Γ d_T_reactTo_44 rfl 1 rfl rfl ?_
        refine X_iconst (v := (-1)) Γ d_T_reactTo_45 (by decide) rfl ?_
        refine X_aload_n Γ d_T_reactTo_46 rfl 1 rfl rfl ?_
        refine X_get Γ d_T_reactTo_47 (by decide) kC_T rfl in_T 2 (by decide) w40 rfl rfl rfl ?_
        refine X_callVi (rest := []) Γ d_T_reactTo_50 (m_T_begin l D cI cZ cB cM a hJ P G (-1) (G 26 2)) (by decide) kC_T rfl rfl w435 w437 s_T_begin w3 w438 e_T_begin ⟨by decide, by decide⟩ ⟨rfl, rfl⟩ rfl rfl (Nat.le_of_ble_eq_true rfl) rfl ?_
        refine X_if_eq (tgt := 60) Γ d_T_reactTo_53 (by decide) rfl (fun h53 => ?_) (fun h53 => ?_)
        · replace E := E.trans (if_pos h53)
          refine X_iconst (v := 0) Γ d_T_reactTo_60 (by decide) rfl ?_
          exact X_iretz Γ d_T_reactTo_61 rfl (g_r E) (g_eq E)
        · replace E := E.trans (if_neg h53)
          refine X_iconst (v := 1) Γ d_T_reactTo_56 (by decide) rfl ?_
          refine X_goto (pc' := 61) Γ d_T_reactTo_57 (by decide) ?_
          exact X_iretz Γ d_T_reactTo_61 rfl (g_r E) (g_eq E)
  refine X_icmp_eq (tgt := 30) Γ d_T_reactTo_12 (by decide) rfl (fun h12 => ?_) (fun h12 => ?_)
  · replace E := E.trans (if_pos h12)
    refine X_iconst (v := 0) Γ d_T_reactTo_30 (by decide) rfl ?_
    refine X_loc [1, 2, 0] rfl ?_
    exact J31 0 trivial E
  · replace E := E.trans (if_neg h12)
    refine X_iload_n Γ d_T_reactTo_15 rfl 2 rfl rfl ?_
    refine X_aload_n Γ d_T_reactTo_16 rfl 1 rfl rfl ?_
    refine X_get Γ d_T_reactTo_17 (by decide) kC_T rfl in_T 1 (by decide) w37 rfl rfl rfl ?_
    refine X_callSNi (rest := []) Γ d_T_reactTo_20 (m_I_contains l D _ _ _ _ hJ _ _ x1 (G 26 1)) w434 w256 w1 w257 e_I_contains ⟨by decide, by decide⟩ ⟨rfl, rfl⟩ rfl rfl (Nat.le_of_ble_eq_true rfl) rfl ?_
    refine X_if_eq (tgt := 30) Γ d_T_reactTo_23 (by decide) rfl (fun h23 => ?_) (fun h23 => ?_)
    · replace E := E.trans (if_pos h23)
      refine X_iconst (v := 0) Γ d_T_reactTo_30 (by decide) rfl ?_
      refine X_loc [1, 2, 0] rfl ?_
      exact J31 0 trivial E
    · replace E := E.trans (if_neg h23)
      refine X_iconst (v := 1) Γ d_T_reactTo_26 (by decide) rfl ?_
      refine X_goto (pc' := 31) Γ d_T_reactTo_27 (by decide) ?_
      refine X_loc [1, 2, 0] rfl ?_
      exact J31 1 trivial E
end
section
def f_B_accept (n : Nat) (n1_ : Nat) (G : Nat → Nat → Int32) : (Nat → Nat → Int32) := (if ((f_B_isExpecting n n1_ G)) = 0 then G else (if ((g2 G n 9 0) n1_ 2) = 1 then ((f_L_cutTo (n + 4) (if ((f_L_countUpTo (n + 4) ((g2 G n 9 0) n1_ 8) (g2 G n 9 0))) < ((g2 G n 9 0) n1_ 7) then ((f_L_countUpTo (n + 4) ((g2 G n 9 0) n1_ 8) (g2 G n 9 0))) else ((g2 G n 9 0) n1_ 7)) (g2 G n 9 0))) else (g2 ((f_G_appendRecords n1_ (n + 4) (g2 G n 9 0))) n 7 (if (((f_G_appendRecords n1_ (n + 4) (g2 G n 9 0))) n 7) < (if (((f_G_appendRecords n1_ (n + 4) (g2 G n 9 0))) (n + 4) 2) < (((f_G_appendRecords n1_ (n + 4) (g2 G n 9 0))) n1_ 8) then (((f_G_appendRecords n1_ (n + 4) (g2 G n 9 0))) (n + 4) 2) else (((f_G_appendRecords n1_ (n + 4) (g2 G n 9 0))) n1_ 8)) then (if (((f_G_appendRecords n1_ (n + 4) (g2 G n 9 0))) (n + 4) 2) < (((f_G_appendRecords n1_ (n + 4) (g2 G n 9 0))) n1_ 8) then (((f_G_appendRecords n1_ (n + 4) (g2 G n 9 0))) (n + 4) 2) else (((f_G_appendRecords n1_ (n + 4) (g2 G n 9 0))) n1_ 8)) else (((f_G_appendRecords n1_ (n + 4) (g2 G n 9 0))) n 7)))))
theorem e_B_accept : y_B_accept.cls ≠ "java/lang/invoke/MethodHandle" ∧ y_B_accept.cls ≠ "java/lang/invoke/VarHandle" ∧ (parseMethodDescriptor y_B_accept.desc).map (fun d => d.parameters.length) = some 1 := by decide +kernel
set_option maxHeartbeats 4000000 in
set_option maxRecDepth 100000 in
theorem m_B_accept (l : Launch) (D : va_G) (cI cZ cB cM : ClassId) (a : Nat → Nat) (hJ : xJ 56 a) (P : Nat → Nat) (G : Nat → Nat → Int32) (n : Nat) (n_1 : 2 ≤ n) (n_2 : n < 6) (n1_ : Nat) (n1_1 : 29 ≤ n1_) (n1_2 : n1_ < 38) (hE : okL G (n + 4)) : Met l y_B_accept (Cond.code y_B_accept prog_2_method_10_code 2 (Option.none : Option FieldType) :: wsBig) { frames := 4, cells := 0, slots := 0, locals := 85 } (xP D xcl (xty cI cZ cB cM) 56 a (kg (kC cI cB cM a P) G) [.ref (a n), .ref (a n1_)]) (xQv D xcl 56 a (kg (kC cI cB cM a P) (f_B_accept n n1_ G))) 0 0 (xA 56 a) := by
  refine X_met (by decide) rfl (Nat.le_of_ble_eq_true rfl) hJ (fun Y s m args Γ => ?_)
  show X Y s m D xcl 56 a 2 (kg (kC cI cB cM a P) G) 0 [(0, .ref (a n)), (1, .ref (a n1_))] []
  have E := f_B_accept.eq_1 n n1_ G
  refine X_aload_n Γ d_B_accept_0 rfl 0 rfl rfl ?_
  refine X_aload_n Γ d_B_accept_1 rfl 1 rfl rfl ?_
  refine X_callVi (rest := []) Γ d_B_accept_2 (m_B_isExpecting l D cI cZ cB cM a hJ P G n n_1 n_2 n1_ n1_1 n1_2) (Nat.lt_of_lt_of_le n_2 (by decide : 6 ≤ 56)) (kC_B n_1 n_2) rfl rfl w360 w362 s_B_isExpecting w6 w363 e_B_isExpecting ⟨by decide, by decide⟩ ⟨rfl, rfl⟩ rfl rfl (Nat.le_of_ble_eq_true rfl) rfl ?_
  refine X_if_ne (tgt := 9) Γ d_B_accept_5 (by decide) rfl (fun h5 => ?_) (fun h5 => ?_)
  · replace E := E.trans (if_neg h5)
    refine X_aload_n Γ d_B_accept_9 rfl 0 rfl rfl ?_
    refine X_iconst (v := 0) Γ d_B_accept_10 (by decide) rfl ?_
    refine X_put (ty := .boolean) Γ d_B_accept_11 (Nat.lt_of_lt_of_le n_2 (by decide : 6 ≤ 56)) (kC_B n_1 n_2) rfl in_B 9 (by decide) w165 rfl ty_B ty_B_ok nm_B rfl (by decide +kernel) rfl rfl (Nat.le_of_ble_eq_true rfl) (kp_B_9 n_1 n_2) rfl ?_
    refine X_aload_n Γ d_B_accept_14 rfl 1 rfl rfl ?_
    refine X_getN Γ d_B_accept_15 (Nat.lt_of_lt_of_le n1_2 (by decide : 38 ≤ 56)) (kC_G n1_1 n1_2) rfl in_G 2 (by decide) w68 rfl rfl rfl ?_
    refine X_iconst (v := 1) Γ d_B_accept_18 (by decide) rfl ?_
    refine X_icmp_ne (tgt := 50) Γ d_B_accept_19 (by decide) rfl (fun h19 => ?_) (fun h19 => ?_)
    · replace E := E.trans (if_neg h19)
      refine X_aload_n Γ d_B_accept_50 rfl 1 rfl rfl ?_
      refine X_aload_n Γ d_B_accept_51 rfl 0 rfl rfl ?_
      refine X_get Γ d_B_accept_52 (Nat.lt_of_lt_of_le n_2 (by decide : 6 ≤ 56)) (kC_B n_1 n_2) rfl in_B 1 (by decide) w150 rfl rfl rfl ?_
      refine X_callVNv (rest := []) Γ d_B_accept_55 (m_G_appendRecords l D cI cZ cB cM a hJ P (g2 G n 9 0) n1_ n1_1 n1_2 (n + 4) (Nat.le_trans (by decide : 6 ≤ 2 + 4) (Nat.add_le_add_right n_1 4)) (Nat.lt_of_lt_of_le (Nat.add_lt_add_right n_2 4) (by decide : 6 + 4 ≤ 10)) (okL_g2 hE (by omega))) (Nat.lt_of_lt_of_le n1_2 (by decide : 38 ≤ 56)) (kC_G n1_1 n1_2) rfl rfl w371 w373 s_G_appendRecords w5 w374 e_G_appendRecords ⟨by decide, by decide⟩ ⟨rfl, rfl⟩ rfl rfl (Nat.le_of_ble_eq_true rfl) rfl ?_
      refine X_aload_n Γ d_B_accept_58 rfl 0 rfl rfl ?_
      refine X_aload_n Γ d_B_accept_59 rfl 0 rfl rfl ?_
      refine X_get Γ d_B_accept_60 (Nat.lt_of_lt_of_le n_2 (by decide : 6 ≤ 56)) (kC_B n_1 n_2) rfl in_B 7 (by decide) w161 rfl rfl rfl ?_
      refine X_aload_n Γ d_B_accept_63 rfl 1 rfl rfl ?_
      refine X_getN Γ d_B_accept_64 (Nat.lt_of_lt_of_le n1_2 (by decide : 38 ≤ 56)) (kC_G n1_1 n1_2) rfl in_G 8 (by decide) w89 rfl rfl rfl ?_
      refine X_aload_n Γ d_B_accept_67 rfl 0 rfl rfl ?_
      refine X_get Γ d_B_accept_68 (Nat.lt_of_lt_of_le n_2 (by decide : 6 ≤ 56)) (kC_B n_1 n_2) rfl in_B 1 (by decide) w150 rfl rfl rfl ?_
      refine X_getN Γ d_B_accept_71 (Nat.lt_of_lt_of_le (Nat.lt_of_lt_of_le (Nat.add_lt_add_right n_2 4) (by decide : 6 + 4 ≤ 10)) (by decide : 10 ≤ 56)) (kC_L (Nat.le_trans (by decide : 6 ≤ 2 + 4) (Nat.add_le_add_right n_1 4)) (Nat.lt_of_lt_of_le (Nat.add_lt_add_right n_2 4) (by decide : 6 + 4 ≤ 10))) rfl in_L 2 (by decide) w136 rfl rfl rfl ?_
      refine X_mmin Γ d_B_accept_74 w258 w23 w2 w24 (by decide) (Nat.le_of_ble_eq_true rfl) rfl ?_
      refine X_mmax Γ d_B_accept_77 w259 w26 w2 w27 (by decide) (Nat.le_of_ble_eq_true rfl) rfl ?_
      refine X_put (ty := .int) Γ d_B_accept_80 (Nat.lt_of_lt_of_le n_2 (by decide : 6 ≤ 56)) (kC_B n_1 n_2) rfl in_B 7 (by decide) w161 rfl ty_B ty_B_ok nm_B rfl (by decide +kernel) rfl rfl (Nat.le_of_ble_eq_true rfl) (kp_B_7 n_1 n_2) rfl ?_
      exact X_vret Γ d_B_accept_83 (gv_eq E)
    · replace E := E.trans (if_pos h19)
      refine X_aload_n Γ d_B_accept_22 rfl 0 rfl rfl ?_
      refine X_get Γ d_B_accept_23 (Nat.lt_of_lt_of_le n_2 (by decide : 6 ≤ 56)) (kC_B n_1 n_2) rfl in_B 1 (by decide) w150 rfl rfl rfl ?_
      refine X_aload_n Γ d_B_accept_26 rfl 1 rfl rfl ?_
      refine X_getN Γ d_B_accept_27 (Nat.lt_of_lt_of_le n1_2 (by decide : 38 ≤ 56)) (kC_G n1_1 n1_2) rfl in_G 7 (by decide) w85 rfl rfl rfl ?_
      refine X_aload_n Γ d_B_accept_30 rfl 0 rfl rfl ?_
      refine X_get Γ d_B_accept_31 (Nat.lt_of_lt_of_le n_2 (by decide : 6 ≤ 56)) (kC_B n_1 n_2) rfl in_B 1 (by decide) w150 rfl rfl rfl ?_
      refine X_aload_n Γ d_B_accept_34 rfl 1 rfl rfl ?_
      refine X_getN Γ d_B_accept_35 (Nat.lt_of_lt_of_le n1_2 (by decide : 38 ≤ 56)) (kC_G n1_1 n1_2) rfl in_G 8 (by decide) w89 rfl rfl rfl ?_
      refine X_callVNi (rest := [.int ((g2 G n 9 0) n1_ 7), .ref (a (n + 4))]) Γ d_B_accept_38 (m_L_countUpTo l D cI cZ cB cM a hJ P (g2 G n 9 0) (n + 4) (Nat.le_trans (by decide : 6 ≤ 2 + 4) (Nat.add_le_add_right n_1 4)) (Nat.lt_of_lt_of_le (Nat.add_lt_add_right n_2 4) (by decide : 6 + 4 ≤ 10)) ((g2 G n 9 0) n1_ 8) (okL_g2 hE (by omega))) (Nat.lt_of_lt_of_le (Nat.lt_of_lt_of_le (Nat.add_lt_add_right n_2 4) (by decide : 6 + 4 ≤ 10)) (by decide : 10 ≤ 56)) (kC_L (Nat.le_trans (by decide : 6 ≤ 2 + 4) (Nat.add_le_add_right n_1 4)) (Nat.lt_of_lt_of_le (Nat.add_lt_add_right n_2 4) (by decide : 6 + 4 ≤ 10))) rfl rfl w365 w353 s_L_countUpTo w7 w354 e_L_countUpTo ⟨by decide, by decide⟩ ⟨rfl, rfl⟩ rfl rfl (Nat.le_of_ble_eq_true rfl) rfl ?_
      refine X_mmin Γ d_B_accept_41 w258 w23 w2 w24 (by decide) (Nat.le_of_ble_eq_true rfl) rfl ?_
      refine X_callVNv (rest := []) Γ d_B_accept_44 (m_L_cutTo l D cI cZ cB cM a hJ P (g2 G n 9 0) (n + 4) (Nat.le_trans (by decide : 6 ≤ 2 + 4) (Nat.add_le_add_right n_1 4)) (Nat.lt_of_lt_of_le (Nat.add_lt_add_right n_2 4) (by decide : 6 + 4 ≤ 10)) (if ((f_L_countUpTo (n + 4) ((g2 G n 9 0) n1_ 8) (g2 G n 9 0))) < ((g2 G n 9 0) n1_ 7) then ((f_L_countUpTo (n + 4) ((g2 G n 9 0) n1_ 8) (g2 G n 9 0))) else ((g2 G n 9 0) n1_ 7))) (Nat.lt_of_lt_of_le (Nat.lt_of_lt_of_le (Nat.add_lt_add_right n_2 4) (by decide : 6 + 4 ≤ 10)) (by decide : 10 ≤ 56)) (kC_L (Nat.le_trans (by decide : 6 ≤ 2 + 4) (Nat.add_le_add_right n_1 4)) (Nat.lt_of_lt_of_le (Nat.add_lt_add_right n_2 4) (by decide : 6 + 4 ≤ 10))) rfl rfl w366 w368 s_L_cutTo w7 w369 e_L_cutTo ⟨by decide, by decide⟩ ⟨rfl, rfl⟩ rfl rfl (Nat.le_of_ble_eq_true rfl) rfl ?_
      refine X_goto (pc' := 83) Γ d_B_accept_47 (by decide) ?_
      exact X_vret Γ d_B_accept_83 (gv_eq E)
  · replace E := E.trans (if_pos h5)
    exact X_vret Γ d_B_accept_8 (gv_eq E)
end
section
def f_H_has (x1 : Int32) (G : Nat → Nat → Int32) : Int32 := (if x1 < 0 then 0 else (if (G 27 1) ≤ x1 then 0 else 1))
theorem e_H_has : y_H_has.cls ≠ "java/lang/invoke/MethodHandle" ∧ y_H_has.cls ≠ "java/lang/invoke/VarHandle" ∧ (parseMethodDescriptor y_H_has.desc).map (fun d => d.parameters.length) = some 1 := by decide +kernel
set_option maxHeartbeats 4000000 in
set_option maxRecDepth 100000 in
theorem m_H_has (l : Launch) (D : va_G) (cI cZ cB cM : ClassId) (a : Nat → Nat) (hJ : xJ 56 a) (P : Nat → Nat) (G : Nat → Nat → Int32) (x1 : Int32) : Met l y_H_has (Cond.code y_H_has prog_3_method_2_code 2 (Option.some FieldType.boolean) :: wsBig) { frames := 0, cells := 0, slots := 0, locals := 0 } (xP D xcl (xty cI cZ cB cM) 56 a (kg (kC cI cB cM a P) G) [.ref (a 27), .int x1]) (xQi D xcl 56 a (f_H_has x1 G) (kg (kC cI cB cM a P) G)) 0 0 (xA 56 a) := by
  refine X_met (by decide) rfl (Nat.le_of_ble_eq_true rfl) hJ (fun Y s m args Γ => ?_)
  show X Y s m D xcl 56 a 2 (kg (kC cI cB cM a P) G) 0 [(0, .ref (a 27)), (1, .int x1)] []
  have E := f_H_has.eq_1 x1 G
  refine X_iload_n Γ d_H_has_0 rfl 1 rfl rfl ?_
  refine X_if_lt (tgt := 16) Γ d_H_has_1 (by decide) rfl (fun h1 => ?_) (fun h1 => ?_)
  · replace E := E.trans (if_pos h1)
    refine X_iconst (v := 0) Γ d_H_has_16 (by decide) rfl ?_
    exact X_iretz Γ d_H_has_17 rfl E.symm rfl
  · replace E := E.trans (if_neg h1)
    refine X_iload_n Γ d_H_has_4 rfl 1 rfl rfl ?_
    refine X_aload_n Γ d_H_has_5 rfl 0 rfl rfl ?_
    refine X_get Γ d_H_has_6 (by decide) kC_H rfl in_H 1 (by decide) w113 rfl rfl rfl ?_
    refine X_icmp_ge (tgt := 16) Γ d_H_has_9 (by decide) rfl (fun h9 => ?_) (fun h9 => ?_)
    · replace E := E.trans (if_pos h9)
      refine X_iconst (v := 0) Γ d_H_has_16 (by decide) rfl ?_
      exact X_iretz Γ d_H_has_17 rfl E.symm rfl
    · replace E := E.trans (if_neg h9)
      refine X_iconst (v := 1) Γ d_H_has_12 (by decide) rfl ?_
      refine X_goto (pc' := 17) Γ d_H_has_13 (by decide) ?_
      exact X_iretz Γ d_H_has_17 rfl E.symm rfl
/-! The channel: its count is in range; what take and send leave alone. -/
def okH (G : Nat → Nat → Int32) : Prop := 0 ≤ (G 27 1).toInt ∧ (G 27 1).toInt ≤ 8
theorem okH_of {G G' : Nat → Nat → Int32} (h : okH G) (e : G' 27 = G 27) : okH G' := by
  unfold okH
  rw [e]
  exact h
theorem okH_g2 {G : Nat → Nat → Int32} {m k : Nat} {v : Int32} (h : okH G) (hne : 27 ≠ m) : okH (g2 G m k v) := okH_of h (g2_ne G k v hne)
theorem ne27 {j : Nat} (h : j < 4) : 27 ≠ 2 + j := by omega
theorem hhas_lt {x : Int32} {G : Nat → Nat → Int32} (h : ¬ f_H_has x G = 0) : 0 ≤ x.toInt ∧ x.toInt < (G 27 1).toInt := by
  unfold f_H_has at h
  by_cases h1 : x < 0
  · rw [if_pos h1] at h; exact absurd rfl h
  · rw [if_neg h1] at h
    by_cases h2 : G 27 1 ≤ x
    · rw [if_pos h2] at h; exact absurd rfl h
    · rw [i_lt, i0] at h1
      rw [i_le] at h2
      omega
theorem hhas_in {x : Int32} {G : Nat → Nat → Int32} (hc : okH G) (h : ¬ f_H_has x G = 0) : vp_in x 9 := by
  have h1 := hhas_lt h
  have h2 := hc.2
  rw [vp_in_iff]
  omega
theorem cnt_in {G : Nat → Nat → Int32} (hc : okH G) (h : G 27 1 < 8) : vp_in (G 27 1) 9 := by
  rw [i_lt, i8] at h
  have h2 := hc.1
  rw [vp_in_iff]
  omega
theorem tk_init {x : Int32} {G : Nat → Nat → Int32} {P : Nat → Nat} (hc : okH G) (h : ¬ f_H_has x G = 0) (hP : ∀ j : Nat, j < 9 → P j < 9) : 9 - x.toInt < ((10 : Nat) : Int) ∧ 0 ≤ x.toInt ∧ x.toInt ≤ 8 ∧ ∀ j : Nat, j < 9 → P j < 9 := by
  have h1 := hhas_lt h
  have h2 := hc.2
  exact ⟨by omega, by omega, by omega, hP⟩
theorem tk_in {v : Int32} {k : Nat} {P : Nat → Nat} (hI : 9 - v.toInt < ((k + 1 : Nat) : Int) ∧ 0 ≤ v.toInt ∧ v.toInt ≤ 8 ∧ ∀ j : Nat, j < 9 → P j < 9) (h : ¬ 8 ≤ v) : vp_in v 9 := by
  rw [i_le, i8] at h
  rw [vp_in_iff]
  omega
theorem tk_v1 {v : Int32} (h0 : 0 ≤ v.toInt) (h : ¬ 8 ≤ v) : (v + 1).toInt = v.toInt + 1 := by
  rw [i_le, i8] at h
  rw [i_add (by rw [i1]; omega) (by rw [i1]; omega), i1]
theorem tk_in1 {v : Int32} {k : Nat} {P : Nat → Nat} (hI : 9 - v.toInt < ((k + 1 : Nat) : Int) ∧ 0 ≤ v.toInt ∧ v.toInt ≤ 8 ∧ ∀ j : Nat, j < 9 → P j < 9) (h : ¬ 8 ≤ v) : vp_in (v + 1) 9 := by
  have h1 := tk_v1 hI.2.1 h
  rw [i_le, i8] at h
  rw [vp_in_iff, h1]
  omega
theorem va_up_lt {P : Nat → Nat} {i w : Nat} (hP : ∀ j : Nat, j < 9 → P j < 9) (hw : w < 9) : ∀ j : Nat, j < 9 → va_up P i w j < 9 := by
  intro j hj
  unfold va_up
  split
  · exact hw
  · exact hP j hj
theorem tk_step {v : Int32} {k : Nat} {P : Nat → Nat} (hI : 9 - v.toInt < ((k + 1 : Nat) : Int) ∧ 0 ≤ v.toInt ∧ v.toInt ≤ 8 ∧ ∀ j : Nat, j < 9 → P j < 9) (h : ¬ 8 ≤ v) : 9 - (v + 1).toInt < (k : Int) ∧ 0 ≤ (v + 1).toInt ∧ (v + 1).toInt ≤ 8 ∧ ∀ j : Nat, j < 9 → va_up P v.toNatClampNeg (P (v + 1).toNatClampNeg) j < 9 := by
  have h2 := va_up_lt (i := v.toNatClampNeg) hI.2.2.2 (hI.2.2.2 _ (vp_lt (tk_in1 hI h)))
  have h1 := tk_v1 hI.2.1 h
  rw [i_le, i8] at h
  rw [h1]
  exact ⟨by omega, by omega, by omega, h2⟩
theorem rt_zb (x : Int32) (G : Nat → Nat → Int32) : (f_T_reactTo x G).1 = 0 ∨ (f_T_reactTo x G).1 = 1 := by
  unfold f_T_reactTo
  simp only [jn]
  have hb : ∀ y z, (f_T_begin y z G).1 = 1 := fun y z => rfl
  repeat' split
  all_goals first | exact Or.inl rfl | exact Or.inr rfl | exact Or.inr (hb _ _)
theorem zb_reactTo (x : Int32) (G : Nat → Nat → Int32) : narrow .boolean (.int (f_T_reactTo x G).1) = .int (f_T_reactTo x G).1 := by
  rcases rt_zb x G with h | h <;> rw [h] <;> rfl
theorem okH_nf {n : Nat} {x1 x2 x3 : Int32} {G : Nat → Nat → Int32} (h : okH G) (_n1 : 2 ≤ n) (n2 : n < 6) : okH (f_B_noteFetched n x1 x2 x3 G) := okH_of h (nf_ne (by omega) (by omega) (by omega))
def f_H_take_19 (x1 : Int32) (G : Nat → Nat → Int32) (P : Nat → Nat) : Nat → Int32 → (Nat → Nat → Int32) → (Nat → Nat) → Option Nat × (Nat → Nat → Int32) × (Nat → Nat)
  | 0, v3_19, Gv19, Pv19 => (none, Gv19, Pv19)
  | k19 + 1, v3_19, Gv19, Pv19 => (if 8 ≤ v3_19 then (some (29 + P x1.toNatClampNeg), (g2 Gv19 27 1 ((Gv19 27 1) - 1)), (va_up Pv19 8 (P x1.toNatClampNeg))) else (f_H_take_19 x1 G P k19 (v3_19 + 1) Gv19 (va_up Pv19 v3_19.toNatClampNeg (Pv19 (v3_19 + 1).toNatClampNeg))))
def f_H_take (x1 : Int32) (G : Nat → Nat → Int32) (P : Nat → Nat) : Option Nat × (Nat → Nat → Int32) × (Nat → Nat) := (if ((f_H_has x1 G)) = 0 then (none, G, P) else (f_H_take_19 x1 G P 10 x1 G P))
theorem e_H_take : y_H_take.cls ≠ "java/lang/invoke/MethodHandle" ∧ y_H_take.cls ≠ "java/lang/invoke/VarHandle" ∧ (parseMethodDescriptor y_H_take.desc).map (fun d => d.parameters.length) = some 1 := by decide +kernel
set_option maxHeartbeats 4000000 in
set_option maxRecDepth 100000 in
theorem m_H_take (l : Launch) (D : va_G) (cI cZ cB cM : ClassId) (a : Nat → Nat) (hJ : xJ 56 a) (P : Nat → Nat) (G : Nat → Nat → Int32) (x1 : Int32) (hP9 : ∀ j, j < 9 → P j < 9) (hc : okH G) : Met l y_H_take (Cond.code y_H_take prog_3_method_3_code 4 (Option.some (FieldType.object "InSyncLog$Message")) :: wsBig) { frames := 1, cells := 0, slots := 0, locals := 21 } (xP D xcl (xty cI cZ cB cM) 56 a (kg (kC cI cB cM a P) G) [.ref (a 27), .int x1]) (xQq D xcl 56 a (((f_H_take x1 G P).1).map a) (kg (kC cI cB cM a ((f_H_take x1 G P).2.2)) ((f_H_take x1 G P).2.1))) 0 0 (xA 56 a) := by
  refine X_met (by decide) rfl (Nat.le_of_ble_eq_true rfl) hJ (fun Y s m args Γ => ?_)
  show X Y s m D xcl 56 a 4 (kg (kC cI cB cM a P) G) 0 [(0, .ref (a 27)), (1, .int x1)] []
  have E := f_H_take.eq_1 x1 G P
  refine X_aload_n Γ d_H_take_0 rfl 0 rfl rfl ?_
  refine X_iload_n Γ d_H_take_1 rfl 1 rfl rfl ?_
  refine X_callVi (rest := []) Γ d_H_take_2 (m_H_has l D cI cZ cB cM a hJ P G x1) (by decide) kC_H rfl rfl w320 w322 s_H_has w4 w323 e_H_has ⟨by decide, by decide⟩ ⟨rfl, rfl⟩ rfl rfl (Nat.le_of_ble_eq_true rfl) rfl ?_
  refine X_if_ne (tgt := 10) Γ d_H_take_5 (by decide) rfl (fun h5 => ?_) (fun h5 => ?_)
  · replace E := E.trans (if_neg h5)
    refine X_aload_n Γ d_H_take_10 rfl 0 rfl rfl ?_
    refine X_get Γ d_H_take_11 (by decide) kC_H rfl in_H 0 (by decide) w111 rfl rfl rfl ?_
    refine X_iload_n Γ d_H_take_14 rfl 1 rfl rfl ?_
    refine X_aald Γ d_H_take_15 (by decide) kC_MA 3 rfl (hhas_in hc h5) rfl rfl ?_
    refine X_astore_n Γ d_H_take_16 rfl (by decide) rfl rfl ?_
    refine X_iload_n Γ d_H_take_17 rfl 2 rfl rfl ?_
    refine X_istore_n Γ d_H_take_18 rfl (by decide) rfl rfl ?_
    have J19 : ∀ (k19 : Nat) (v3_19 : Int32) (Gv19 : Nat → Nat → Int32) (Pv19 : Nat → Nat), (9 - v3_19.toInt < k19 ∧ 0 ≤ v3_19.toInt ∧ v3_19.toInt ≤ 8 ∧ ∀ j : Nat, j < 9 → Pv19 j < 9) → f_H_take x1 G P = f_H_take_19 x1 G P k19 v3_19 Gv19 Pv19 → X Y s m D xcl 56 a 4 (kg (kC cI cB cM a Pv19) Gv19) 19 [(0, .ref (a 27)), (1, .int x1), (2, .ref (a (29 + P x1.toNatClampNeg))), (3, .int v3_19)] [] := by
      intro k19
      induction k19 with
      | zero => exact fun v3_19 Gv19 Pv19 hI19 _ => absurd hI19 (fun h => by omega)
      | succ k19 ih19 =>
        intro v3_19 Gv19 Pv19 hI19 E
        rw [f_H_take_19] at E
        refine X_iload_n Γ d_H_take_19 rfl 3 rfl rfl ?_
        refine X_bipush (v := 8) Γ d_H_take_20 (by decide) rfl ?_
        refine X_icmp_ge (tgt := 45) Γ d_H_take_22 (by decide) rfl (fun h22 => ?_) (fun h22 => ?_)
        · replace E := E.trans (if_pos h22)
          refine X_aload_n Γ d_H_take_45 rfl 0 rfl rfl ?_
          refine X_get Γ d_H_take_46 (by decide) kC_H rfl in_H 0 (by decide) w111 rfl rfl rfl ?_
          refine X_bipush (v := 8) Γ d_H_take_49 (by decide) rfl ?_
          refine X_aload_n Γ d_H_take_51 rfl 2 rfl rfl ?_
          refine X_aast (K' := (kC cI cB cM a (va_up Pv19 8 (P x1.toNatClampNeg)))) Γ d_H_take_52 (by decide) kC_MA 3 rfl (Nat.lt_of_lt_of_le (Nat.add_lt_add_left (hP9 _ (vp_lt (hhas_in hc h5))) 29) (by decide : 38 ≤ 56)) (kC_G (Nat.le_add_right 29 _) (Nat.add_lt_add_left (hP9 _ (vp_lt (hhas_in hc h5))) 29)) rfl in8_9 (kC_P) (kC_Pu) rfl ?_
          refine X_aload_n Γ d_H_take_53 rfl 0 rfl rfl ?_
          refine X_dup Γ d_H_take_54 rfl rfl ?_
          refine X_get Γ d_H_take_55 (by decide) kC_H rfl in_H 1 (by decide) w113 rfl rfl rfl ?_
          refine X_iconst (v := 1) Γ d_H_take_58 (by decide) rfl ?_
          refine X_isub Γ d_H_take_59 rfl ?_
          refine X_put (ty := .int) Γ d_H_take_60 (by decide) kC_H rfl in_H 1 (by decide) w113 rfl ty_H ty_H_ok nm_H rfl (by decide +kernel) rfl rfl (Nat.le_of_ble_eq_true rfl) kp_H_1 rfl ?_
          refine X_aload_n Γ d_H_take_63 rfl 2 rfl rfl ?_
          exact X_aret (x := some (a (29 + P x1.toNatClampNeg))) Γ d_H_take_64 rfl (congrArg (Option.map a) (congrArg Prod.fst E)).symm (congrArg (fun q => kg (kC cI cB cM a q.2.2) q.2.1) E).symm
        · replace E := E.trans (if_neg h22)
          refine X_aload_n Γ d_H_take_25 rfl 0 rfl rfl ?_
          refine X_get Γ d_H_take_26 (by decide) kC_H rfl in_H 0 (by decide) w111 rfl rfl rfl ?_
          refine X_iload_n Γ d_H_take_29 rfl 3 rfl rfl ?_
          refine X_aload_n Γ d_H_take_30 rfl 0 rfl rfl ?_
          refine X_get Γ d_H_take_31 (by decide) kC_H rfl in_H 0 (by decide) w111 rfl rfl rfl ?_
          refine X_iload_n Γ d_H_take_34 rfl 3 rfl rfl ?_
          refine X_iconst (v := 1) Γ d_H_take_35 (by decide) rfl ?_
          refine X_iadd Γ d_H_take_36 rfl ?_
          refine X_aald Γ d_H_take_37 (by decide) kC_MA 3 rfl (tk_in1 hI19 h22) rfl rfl ?_
          refine X_aast (K' := (kC cI cB cM a (va_up Pv19 v3_19.toNatClampNeg (Pv19 (v3_19 + 1).toNatClampNeg)))) Γ d_H_take_38 (by decide) kC_MA 3 rfl (Nat.lt_of_lt_of_le (Nat.add_lt_add_left (hI19.2.2.2 _ (vp_lt (tk_in1 hI19 h22))) 29) (by decide : 38 ≤ 56)) (kC_G (Nat.le_add_right 29 _) (Nat.add_lt_add_left (hI19.2.2.2 _ (vp_lt (tk_in1 hI19 h22))) 29)) rfl (tk_in hI19 h22) (kC_P) (kC_Pu) rfl ?_
          refine X_iinc (v := (v3_19 + 1)) Γ d_H_take_39 3 rfl rfl (by decide) rfl rfl ?_
          refine X_goto (pc' := 19) Γ d_H_take_42 (by decide) ?_
          refine X_loc [1, 2, 3, 0] rfl ?_
          exact ih19 (v3_19 + 1) Gv19 (va_up Pv19 v3_19.toNatClampNeg (Pv19 (v3_19 + 1).toNatClampNeg)) (tk_step hI19 h22) E
    refine X_loc [2, 3, 1, 0] rfl ?_
    exact J19 10 x1 G P (tk_init hc h5 hP9) E
  · replace E := E.trans (if_pos h5)
    refine X_null Γ d_H_take_8 rfl ?_
    exact X_aret (x := none) Γ d_H_take_9 rfl (congrArg (Option.map a) (congrArg Prod.fst E)).symm (congrArg (fun q => kg (kC cI cB cM a q.2.2) q.2.1) E).symm
def f_H_send (x1 : Int32) (n2_ : Nat) (x3 : Int32) (x4 : Int32) (x5 : Int32) (x6 : Int32) (G : Nat → Nat → Int32) (P : Nat → Nat) : Option Nat × (Nat → Nat → Int32) := (if (G 27 1) < 8 then (jn (g2 (g2 (g2 (g2 (g2 G 27 1 ((G 27 1) + 1)) (29 + P (G 27 1).toNatClampNeg) 2 x1) (29 + P (G 27 1).toNatClampNeg) 3 ((g2 (g2 G 27 1 ((G 27 1) + 1)) (29 + P (G 27 1).toNatClampNeg) 2 x1) n2_ 0)) (29 + P (G 27 1).toNatClampNeg) 4 x3) (29 + P (G 27 1).toNatClampNeg) 5 ((g2 (g2 (g2 (g2 G 27 1 ((G 27 1) + 1)) (29 + P (G 27 1).toNatClampNeg) 2 x1) (29 + P (G 27 1).toNatClampNeg) 3 ((g2 (g2 G 27 1 ((G 27 1) + 1)) (29 + P (G 27 1).toNatClampNeg) 2 x1) n2_ 0)) (29 + P (G 27 1).toNatClampNeg) 4 x3) n2_ 5)) (fun (G1 : Nat → Nat → Int32) => (some (29 + P (G 27 1).toNatClampNeg), (g2 (g2 (g2 G1 (29 + P (G 27 1).toNatClampNeg) 6 x4) (29 + P (G 27 1).toNatClampNeg) 7 x5) (29 + P (G 27 1).toNatClampNeg) 8 x6)))) else (none, G))
theorem e_H_send : y_H_send.cls ≠ "java/lang/invoke/MethodHandle" ∧ y_H_send.cls ≠ "java/lang/invoke/VarHandle" ∧ (parseMethodDescriptor y_H_send.desc).map (fun d => d.parameters.length) = some 6 := by decide +kernel
set_option maxHeartbeats 4000000 in
set_option maxRecDepth 100000 in
theorem m_H_send (l : Launch) (D : va_G) (cI cZ cB cM : ClassId) (a : Nat → Nat) (hJ : xJ 56 a) (P : Nat → Nat) (G : Nat → Nat → Int32) (x1 : Int32) (n2_ : Nat) (n2_1 : 2 ≤ n2_) (n2_2 : n2_ < 6) (x3 : Int32) (x4 : Int32) (x5 : Int32) (x6 : Int32) (hP9 : ∀ j, j < 9 → P j < 9) (hc : okH G) : Met l y_H_send (Cond.code y_H_send prog_3_method_4_code 8 (Option.some (FieldType.object "InSyncLog$Message")) :: wsBig) { frames := 0, cells := 0, slots := 0, locals := 0 } (xP D xcl (xty cI cZ cB cM) 56 a (kg (kC cI cB cM a P) G) [.ref (a 27), .int x1, .ref (a n2_), .int x3, .int x4, .int x5, .int x6]) (xQq D xcl 56 a (((f_H_send x1 n2_ x3 x4 x5 x6 G P).1).map a) (kg (kC cI cB cM a P) ((f_H_send x1 n2_ x3 x4 x5 x6 G P).2))) 0 0 (xA 56 a) := by
  refine X_met (by decide) rfl (Nat.le_of_ble_eq_true rfl) hJ (fun Y s m args Γ => ?_)
  show X Y s m D xcl 56 a 8 (kg (kC cI cB cM a P) G) 0 [(0, .ref (a 27)), (1, .int x1), (2, .ref (a n2_)), (3, .int x3), (4, .int x4), (5, .int x5), (6, .int x6)] []
  have E := f_H_send.eq_1 x1 n2_ x3 x4 x5 x6 G P
  refine X_aload_n Γ d_H_send_0 rfl 0 rfl rfl ?_
  refine X_get Γ d_H_send_1 (by decide) kC_H rfl in_H 1 (by decide) w113 rfl rfl rfl ?_
  refine X_bipush (v := 8) Γ d_H_send_4 (by decide) rfl ?_
  refine X_icmp_lt (tgt := 11) Γ d_H_send_6 (by decide) rfl (fun h6 => ?_) (fun h6 => ?_)
  · replace E := E.trans (if_pos h6)
    refine X_aload_n Γ d_H_send_11 rfl 0 rfl rfl ?_
    refine X_get Γ d_H_send_12 (by decide) kC_H rfl in_H 0 (by decide) w111 rfl rfl rfl ?_
    refine X_aload_n Γ d_H_send_15 rfl 0 rfl rfl ?_
    refine X_get Γ d_H_send_16 (by decide) kC_H rfl in_H 1 (by decide) w113 rfl rfl rfl ?_
    refine X_aald Γ d_H_send_19 (by decide) kC_MA 3 rfl (cnt_in hc h6) rfl rfl ?_
    refine X_astore Γ d_H_send_20 (by decide) rfl rfl ?_
    refine X_aload_n Γ d_H_send_22 rfl 1 rfl rfl ?_
    refine X_dup Γ d_H_send_23 rfl rfl ?_
    refine X_get Γ d_H_send_24 (by decide) kC_H rfl in_H 1 (by decide) w113 rfl rfl rfl ?_
    refine X_iconst (v := 1) Γ d_H_send_27 (by decide) rfl ?_
    refine X_iadd Γ d_H_send_28 rfl ?_
    refine X_put (ty := .int) Γ d_H_send_29 (by decide) kC_H rfl in_H 1 (by decide) w113 rfl ty_H ty_H_ok nm_H rfl (by decide +kernel) rfl rfl (Nat.le_of_ble_eq_true rfl) kp_H_1 rfl ?_
    refine X_aload Γ d_H_send_32 0 rfl rfl ?_
    refine X_iload_n Γ d_H_send_34 rfl 2 rfl rfl ?_
    refine X_putN (ty := .int) Γ d_H_send_35 (Nat.lt_of_lt_of_le (Nat.add_lt_add_left (hP9 _ (vp_lt (cnt_in hc h6))) 29) (by decide : 38 ≤ 56)) (kC_G (Nat.le_add_right 29 _) (Nat.add_lt_add_left (hP9 _ (vp_lt (cnt_in hc h6))) 29)) rfl in_G 2 (by decide) w66 rfl ty_G ty_G_ok nm_G rfl (by decide +kernel) rfl rfl (Nat.le_of_ble_eq_true rfl) (kp_G_2 (Nat.le_add_right 29 _) (Nat.add_lt_add_left (hP9 _ (vp_lt (cnt_in hc h6))) 29)) rfl ?_
    refine X_aload Γ d_H_send_38 0 rfl rfl ?_
    refine X_aload_n Γ d_H_send_40 rfl 3 rfl rfl ?_
    refine X_getN Γ d_H_send_41 (Nat.lt_of_lt_of_le n2_2 (by decide : 6 ≤ 56)) (kC_B n2_1 n2_2) rfl in_B 0 (by decide) w149 rfl rfl rfl ?_
    refine X_putN (ty := .int) Γ d_H_send_44 (Nat.lt_of_lt_of_le (Nat.add_lt_add_left (hP9 _ (vp_lt (cnt_in hc h6))) 29) (by decide : 38 ≤ 56)) (kC_G (Nat.le_add_right 29 _) (Nat.add_lt_add_left (hP9 _ (vp_lt (cnt_in hc h6))) 29)) rfl in_G 3 (by decide) w70 rfl ty_G ty_G_ok nm_G rfl (by decide +kernel) rfl rfl (Nat.le_of_ble_eq_true rfl) (kp_G_3 (Nat.le_add_right 29 _) (Nat.add_lt_add_left (hP9 _ (vp_lt (cnt_in hc h6))) 29)) rfl ?_
    refine X_aload Γ d_H_send_47 0 rfl rfl ?_
    refine X_iload_n Γ d_H_send_49 rfl 4 rfl rfl ?_
    refine X_putN (ty := .int) Γ d_H_send_50 (Nat.lt_of_lt_of_le (Nat.add_lt_add_left (hP9 _ (vp_lt (cnt_in hc h6))) 29) (by decide : 38 ≤ 56)) (kC_G (Nat.le_add_right 29 _) (Nat.add_lt_add_left (hP9 _ (vp_lt (cnt_in hc h6))) 29)) rfl in_G 4 (by decide) w73 rfl ty_G ty_G_ok nm_G rfl (by decide +kernel) rfl rfl (Nat.le_of_ble_eq_true rfl) (kp_G_4 (Nat.le_add_right 29 _) (Nat.add_lt_add_left (hP9 _ (vp_lt (cnt_in hc h6))) 29)) rfl ?_
    refine X_aload Γ d_H_send_53 0 rfl rfl ?_
    refine X_aload_n Γ d_H_send_55 rfl 3 rfl rfl ?_
    refine X_getN Γ d_H_send_56 (Nat.lt_of_lt_of_le n2_2 (by decide : 6 ≤ 56)) (kC_B n2_1 n2_2) rfl in_B 5 (by decide) w158 rfl rfl rfl ?_
    refine X_putN (ty := .int) Γ d_H_send_59 (Nat.lt_of_lt_of_le (Nat.add_lt_add_left (hP9 _ (vp_lt (cnt_in hc h6))) 29) (by decide : 38 ≤ 56)) (kC_G (Nat.le_add_right 29 _) (Nat.add_lt_add_left (hP9 _ (vp_lt (cnt_in hc h6))) 29)) rfl in_G 5 (by decide) w76 rfl ty_G ty_G_ok nm_G rfl (by decide +kernel) rfl rfl (Nat.le_of_ble_eq_true rfl) (kp_G_5 (Nat.le_add_right 29 _) (Nat.add_lt_add_left (hP9 _ (vp_lt (cnt_in hc h6))) 29)) rfl ?_
    refine jn_open E (fun G1 eG1 E => ?_)
    rw [← eG1]
    refine X_aload Γ d_H_send_62 0 rfl rfl ?_
    refine X_iload Γ d_H_send_64 5 rfl rfl ?_
    refine X_putN (ty := .int) Γ d_H_send_66 (Nat.lt_of_lt_of_le (Nat.add_lt_add_left (hP9 _ (vp_lt (cnt_in hc h6))) 29) (by decide : 38 ≤ 56)) (kC_G (Nat.le_add_right 29 _) (Nat.add_lt_add_left (hP9 _ (vp_lt (cnt_in hc h6))) 29)) rfl in_G 6 (by decide) w80 rfl ty_G ty_G_ok nm_G rfl (by decide +kernel) rfl rfl (Nat.le_of_ble_eq_true rfl) (kp_G_6 (Nat.le_add_right 29 _) (Nat.add_lt_add_left (hP9 _ (vp_lt (cnt_in hc h6))) 29)) rfl ?_
    refine X_aload Γ d_H_send_69 0 rfl rfl ?_
    refine X_iload Γ d_H_send_71 6 rfl rfl ?_
    refine X_putN (ty := .int) Γ d_H_send_73 (Nat.lt_of_lt_of_le (Nat.add_lt_add_left (hP9 _ (vp_lt (cnt_in hc h6))) 29) (by decide : 38 ≤ 56)) (kC_G (Nat.le_add_right 29 _) (Nat.add_lt_add_left (hP9 _ (vp_lt (cnt_in hc h6))) 29)) rfl in_G 7 (by decide) w84 rfl ty_G ty_G_ok nm_G rfl (by decide +kernel) rfl rfl (Nat.le_of_ble_eq_true rfl) (kp_G_7 (Nat.le_add_right 29 _) (Nat.add_lt_add_left (hP9 _ (vp_lt (cnt_in hc h6))) 29)) rfl ?_
    refine X_aload Γ d_H_send_76 0 rfl rfl ?_
    refine X_iload Γ d_H_send_78 7 rfl rfl ?_
    refine X_putN (ty := .int) Γ d_H_send_80 (Nat.lt_of_lt_of_le (Nat.add_lt_add_left (hP9 _ (vp_lt (cnt_in hc h6))) 29) (by decide : 38 ≤ 56)) (kC_G (Nat.le_add_right 29 _) (Nat.add_lt_add_left (hP9 _ (vp_lt (cnt_in hc h6))) 29)) rfl in_G 8 (by decide) w88 rfl ty_G ty_G_ok nm_G rfl (by decide +kernel) rfl rfl (Nat.le_of_ble_eq_true rfl) (kp_G_8 (Nat.le_add_right 29 _) (Nat.add_lt_add_left (hP9 _ (vp_lt (cnt_in hc h6))) 29)) rfl ?_
    refine X_aload Γ d_H_send_83 0 rfl rfl ?_
    exact X_aret (x := some (a (29 + P (G 27 1).toNatClampNeg))) Γ d_H_send_85 rfl (congrArg (Option.map a) (congrArg Prod.fst E)).symm (congrArg (fun q => kg _ q.2) E).symm
  · replace E := E.trans (if_neg h6)
    refine X_null Γ d_H_send_9 rfl ?_
    exact X_aret (x := none) Γ d_H_send_10 rfl (congrArg (Option.map a) (congrArg Prod.fst E)).symm (congrArg (fun q => kg _ q.2) E).symm
theorem take_19 {x1 : Int32} {G : Nat → Nat → Int32} {P : Nat → Nat} : ∀ (k : Nat) (v : Int32) (Gv : Nat → Nat → Int32) (Pv : Nat → Nat), (9 - v.toInt < (k : Int) ∧ 0 ≤ v.toInt ∧ v.toInt ≤ 8 ∧ ∀ j : Nat, j < 9 → Pv j < 9) → P x1.toNatClampNeg < 9 → (f_H_take_19 x1 G P k v Gv Pv).1 = some (29 + P x1.toNatClampNeg) ∧ (f_H_take_19 x1 G P k v Gv Pv).2.1 = g2 Gv 27 1 (Gv 27 1 - 1) ∧ ∀ j : Nat, j < 9 → (f_H_take_19 x1 G P k v Gv Pv).2.2 j < 9 := by
  intro k
  induction k with
  | zero => intro v Gv Pv h; exact absurd h (fun h => by omega)
  | succ k ih =>
    intro v Gv Pv hI hx
    rw [f_H_take_19]
    by_cases h : 8 ≤ v
    · rw [if_pos h]
      exact ⟨rfl, rfl, va_up_lt hI.2.2.2 hx⟩
    · rw [if_neg h]
      exact ih _ _ _ (tk_step hI h) hx
theorem take_some {x1 : Int32} {G : Nat → Nat → Int32} {P : Nat → Nat} (hP : ∀ j : Nat, j < 9 → P j < 9) (hc : okH G) (h : ¬ (f_H_take x1 G P).1 = none) : ¬ f_H_has x1 G = 0 := by
  intro q
  apply h
  unfold f_H_take
  rw [if_pos q]
theorem take_fact {x1 : Int32} {G : Nat → Nat → Int32} {P : Nat → Nat} (hP : ∀ j : Nat, j < 9 → P j < 9) (hc : okH G) (h : ¬ f_H_has x1 G = 0) : (f_H_take x1 G P).1 = some (29 + P x1.toNatClampNeg) ∧ (f_H_take x1 G P).2.1 = g2 G 27 1 (G 27 1 - 1) ∧ ∀ j : Nat, j < 9 → (f_H_take x1 G P).2.2 j < 9 := by
  unfold f_H_take
  rw [if_neg h]
  exact take_19 10 x1 G P (tk_init hc h hP) (hP _ (vp_lt (hhas_in hc h)))
theorem tk_num {x1 : Int32} {G : Nat → Nat → Int32} {P : Nat → Nat} (hP : ∀ j : Nat, j < 9 → P j < 9) (hc : okH G) (h : ¬ (f_H_take x1 G P).1 = none) : (f_H_take x1 G P).1.getD 0 = 29 + P x1.toNatClampNeg := by
  rw [(take_fact hP hc (take_some hP hc h)).1]
  rfl
theorem tk_lo {x1 : Int32} {G : Nat → Nat → Int32} {P : Nat → Nat} (hP : ∀ j : Nat, j < 9 → P j < 9) (hc : okH G) (h : ¬ (f_H_take x1 G P).1 = none) : 29 ≤ (f_H_take x1 G P).1.getD 0 := by
  rw [tk_num hP hc h]
  exact Nat.le_add_right 29 _
theorem tk_hi {x1 : Int32} {G : Nat → Nat → Int32} {P : Nat → Nat} (hP : ∀ j : Nat, j < 9 → P j < 9) (hc : okH G) (h : ¬ (f_H_take x1 G P).1 = none) : (f_H_take x1 G P).1.getD 0 < 38 := by
  rw [tk_num hP hc h]
  have := hP _ (vp_lt (hhas_in hc (take_some hP hc h)))
  omega
theorem tk_ne {x1 : Int32} {G : Nat → Nat → Int32} {P : Nat → Nat} {i : Nat} (hP : ∀ j : Nat, j < 9 → P j < 9) (hc : okH G) (hi : i ≠ 27) : (f_H_take x1 G P).2.1 i = G i := by
  by_cases h : f_H_has x1 G = 0
  · unfold f_H_take
    rw [if_pos h]
  · rw [(take_fact hP hc h).2.1, g2_ne _ _ _ hi]
theorem tk_to {x1 : Int32} {G : Nat → Nat → Int32} {P : Nat → Nat} (hM : ∀ j : Nat, j < 9 → vp_in (G (29 + j) 4) 4 ∧ vp_in (G (29 + j) 3) 4) (hP : ∀ j : Nat, j < 9 → P j < 9) (hc : okH G) (h : ¬ (f_H_take x1 G P).1 = none) : vp_in ((f_H_take x1 G P).2.1 ((f_H_take x1 G P).1.getD 0) 4) 4 := by
  have hj := hP _ (vp_lt (hhas_in hc (take_some hP hc h)))
  rw [tk_num hP hc h, tk_ne hP hc (by omega)]
  exact (hM _ hj).1
theorem tk_from {x1 : Int32} {G : Nat → Nat → Int32} {P : Nat → Nat} (hM : ∀ j : Nat, j < 9 → vp_in (G (29 + j) 4) 4 ∧ vp_in (G (29 + j) 3) 4) (hP : ∀ j : Nat, j < 9 → P j < 9) (hc : okH G) (h : ¬ (f_H_take x1 G P).1 = none) : vp_in ((f_H_take x1 G P).2.1 ((f_H_take x1 G P).1.getD 0) 3) 4 := by
  have hj := hP _ (vp_lt (hhas_in hc (take_some hP hc h)))
  rw [tk_num hP hc h, tk_ne hP hc (by omega)]
  exact (hM _ hj).2
theorem tk_P9 {x1 : Int32} {G : Nat → Nat → Int32} {P : Nat → Nat} (hP : ∀ j : Nat, j < 9 → P j < 9) (hc : okH G) : ∀ j : Nat, j < 9 → (f_H_take x1 G P).2.2 j < 9 := by
  by_cases h : f_H_has x1 G = 0
  · unfold f_H_take
    rw [if_pos h]
    exact hP
  · exact (take_fact hP hc h).2.2
theorem tk_okH {x1 : Int32} {G : Nat → Nat → Int32} {P : Nat → Nat} (hP : ∀ j : Nat, j < 9 → P j < 9) (hc : okH G) : okH (f_H_take x1 G P).2.1 := by
  by_cases h : f_H_has x1 G = 0
  · unfold f_H_take
    rw [if_pos h]
    exact hc
  · rw [(take_fact hP hc h).2.1]
    have h1 := hhas_lt h
    have h2 := hc
    unfold okH at h2 ⊢
    rw [g2_at, i_sub (by rw [i1]; omega) (by rw [i1]; omega), i1]
    omega
theorem tk_okL {x1 : Int32} {G : Nat → Nat → Int32} {P : Nat → Nat} {n : Nat} (hP : ∀ j : Nat, j < 9 → P j < 9) (hc : okH G) (hn : n ≠ 27) (h : okL G n) : okL (f_H_take x1 G P).2.1 n := okL_of h (tk_ne hP hc hn)
/-! send -/
theorem send_some {x1 x3 x4 x5 x6 : Int32} {n : Nat} {G : Nat → Nat → Int32} {P : Nat → Nat} (h : ¬ (f_H_send x1 n x3 x4 x5 x6 G P).1 = none) : G 27 1 < 8 := by
  by_cases q : G 27 1 < 8
  · exact q
  · exfalso
    apply h
    unfold f_H_send
    rw [if_neg q]
theorem send_num {x1 x3 x4 x5 x6 : Int32} {n : Nat} {G : Nat → Nat → Int32} {P : Nat → Nat} (h : ¬ (f_H_send x1 n x3 x4 x5 x6 G P).1 = none) : (f_H_send x1 n x3 x4 x5 x6 G P).1.getD 0 = 29 + P (G 27 1).toNatClampNeg := by
  have q := send_some h
  unfold f_H_send
  rw [if_pos q]
  rfl
theorem sd_lo {x1 x3 x4 x5 x6 : Int32} {n : Nat} {G : Nat → Nat → Int32} {P : Nat → Nat} (h : ¬ (f_H_send x1 n x3 x4 x5 x6 G P).1 = none) : 29 ≤ (f_H_send x1 n x3 x4 x5 x6 G P).1.getD 0 := by
  rw [send_num h]
  exact Nat.le_add_right 29 _
theorem sd_hi {x1 x3 x4 x5 x6 : Int32} {n : Nat} {G : Nat → Nat → Int32} {P : Nat → Nat} (hP : ∀ j : Nat, j < 9 → P j < 9) (hc : okH G) (h : ¬ (f_H_send x1 n x3 x4 x5 x6 G P).1 = none) : (f_H_send x1 n x3 x4 x5 x6 G P).1.getD 0 < 38 := by
  rw [send_num h]
  have := hP _ (vp_lt (cnt_in hc (send_some h)))
  omega
theorem send_ne {x1 x3 x4 x5 x6 : Int32} {n i : Nat} {G : Nat → Nat → Int32} {P : Nat → Nat} (h0 : i ≠ 27) (h1 : i < 29) : (f_H_send x1 n x3 x4 x5 x6 G P).2 i = G i := by
  unfold f_H_send
  by_cases q : G 27 1 < 8
  · rw [if_pos q]
    simp only [jn]
    repeat rw [g2_ne _ _ _ (by omega)]
  · rw [if_neg q]
theorem okL_sd {x1 x3 x4 x5 x6 : Int32} {n m : Nat} {G : Nat → Nat → Int32} {P : Nat → Nat} (h : okL G (m + 4)) (_m1 : 2 ≤ m) (m2 : m < 6) : okL (f_H_send x1 n x3 x4 x5 x6 G P).2 (m + 4) := okL_of h (send_ne (by omega) (by omega))
end
section
def f_I_isUp (x1 : Int32) (G : Nat → Nat → Int32) : Int32 := (if ((f_I_isBroker x1)) = 0 then 0 else (if (G (2 + x1.toNatClampNeg) 4) = 0 then 0 else 1))
theorem e_I_isUp : y_I_isUp.cls ≠ "java/lang/invoke/MethodHandle" ∧ y_I_isUp.cls ≠ "java/lang/invoke/VarHandle" ∧ (parseMethodDescriptor y_I_isUp.desc).map (fun d => d.parameters.length) = some 1 := by decide +kernel
set_option maxHeartbeats 4000000 in
set_option maxRecDepth 100000 in
theorem m_I_isUp (l : Launch) (D : va_G) (cI cZ cB cM : ClassId) (a : Nat → Nat) (hJ : xJ 56 a) (P : Nat → Nat) (G : Nat → Nat → Int32) (x1 : Int32) : Met l y_I_isUp (Cond.code y_I_isUp prog_1_method_25_code 2 (Option.some FieldType.boolean) :: wsBig) { frames := 1, cells := 0, slots := 0, locals := 20 } (xP D xcl (xty cI cZ cB cM) 56 a (kg (kC cI cB cM a P) G) [.ref (a 0), .int x1]) (xQi D xcl 56 a (f_I_isUp x1 G) (kg (kC cI cB cM a P) G)) 0 0 (xA 56 a) := by
  refine X_met (by decide) rfl (Nat.le_of_ble_eq_true rfl) hJ (fun Y s m args Γ => ?_)
  show X Y s m D xcl 56 a 2 (kg (kC cI cB cM a P) G) 0 [(0, .ref (a 0)), (1, .int x1)] []
  have E := f_I_isUp.eq_1 x1 G
  refine X_iload_n Γ d_I_isUp_0 rfl 1 rfl rfl ?_
  refine X_callSi (rest := []) Γ d_I_isUp_1 (m_I_isBroker l D _ _ _ _ hJ _ _ x1) w225 w226 w1 w227 e_I_isBroker ⟨by decide, by decide⟩ ⟨rfl, rfl⟩ rfl rfl (Nat.le_of_ble_eq_true rfl) rfl ?_
  refine X_if_eq (tgt := 23) Γ d_I_isUp_4 (by decide) rfl (fun h4 => ?_) (fun h4 => ?_)
  · replace E := E.trans (if_pos h4)
    refine X_iconst (v := 0) Γ d_I_isUp_23 (by decide) rfl ?_
    exact X_iretz Γ d_I_isUp_24 rfl E.symm rfl
  · replace E := E.trans (if_neg h4)
    refine X_aload_n Γ d_I_isUp_7 rfl 0 rfl rfl ?_
    refine X_get Γ d_I_isUp_8 (by decide) kC_I rfl in_I 3 (by decide) w198 rfl rfl rfl ?_
    refine X_iload_n Γ d_I_isUp_11 rfl 1 rfl rfl ?_
    refine X_aald Γ d_I_isUp_12 (by decide) kC_BA 2 rfl (isB_in h4) rfl rfl ?_
    refine X_getN Γ d_I_isUp_13 (Nat.lt_of_lt_of_le (Nat.add_lt_add_left (vp_lt (isB_in h4)) 2) (by decide : 6 ≤ 56)) (kC_B (Nat.le_add_right 2 _) (Nat.add_lt_add_left (vp_lt (isB_in h4)) 2)) rfl in_B 4 (by decide) w155 rfl rfl rfl ?_
    refine X_if_eq (tgt := 23) Γ d_I_isUp_16 (by decide) rfl (fun h16 => ?_) (fun h16 => ?_)
    · replace E := E.trans (if_pos h16)
      refine X_iconst (v := 0) Γ d_I_isUp_23 (by decide) rfl ?_
      exact X_iretz Γ d_I_isUp_24 rfl E.symm rfl
    · replace E := E.trans (if_neg h16)
      refine X_iconst (v := 1) Γ d_I_isUp_19 (by decide) rfl ?_
      refine X_goto (pc' := 24) Γ d_I_isUp_20 (by decide) ?_
      exact X_iretz Γ d_I_isUp_24 rfl E.symm rfl
def f_I_isLeading (x1 : Int32) (G : Nat → Nat → Int32) : Int32 := (if ((f_I_isBroker x1)) = 0 then 0 else (if ((f_B_leads (2 + x1.toNatClampNeg) G)) = 0 then 0 else 1))
theorem e_I_isLeading : y_I_isLeading.cls ≠ "java/lang/invoke/MethodHandle" ∧ y_I_isLeading.cls ≠ "java/lang/invoke/VarHandle" ∧ (parseMethodDescriptor y_I_isLeading.desc).map (fun d => d.parameters.length) = some 1 := by decide +kernel
set_option maxHeartbeats 4000000 in
set_option maxRecDepth 100000 in
theorem m_I_isLeading (l : Launch) (D : va_G) (cI cZ cB cM : ClassId) (a : Nat → Nat) (hJ : xJ 56 a) (P : Nat → Nat) (G : Nat → Nat → Int32) (x1 : Int32) : Met l y_I_isLeading (Cond.code y_I_isLeading prog_1_method_26_code 2 (Option.some FieldType.boolean) :: wsBig) { frames := 1, cells := 0, slots := 0, locals := 20 } (xP D xcl (xty cI cZ cB cM) 56 a (kg (kC cI cB cM a P) G) [.ref (a 0), .int x1]) (xQi D xcl 56 a (f_I_isLeading x1 G) (kg (kC cI cB cM a P) G)) 0 0 (xA 56 a) := by
  refine X_met (by decide) rfl (Nat.le_of_ble_eq_true rfl) hJ (fun Y s m args Γ => ?_)
  show X Y s m D xcl 56 a 2 (kg (kC cI cB cM a P) G) 0 [(0, .ref (a 0)), (1, .int x1)] []
  have E := f_I_isLeading.eq_1 x1 G
  refine X_iload_n Γ d_I_isLeading_0 rfl 1 rfl rfl ?_
  refine X_callSi (rest := []) Γ d_I_isLeading_1 (m_I_isBroker l D _ _ _ _ hJ _ _ x1) w225 w226 w1 w227 e_I_isBroker ⟨by decide, by decide⟩ ⟨rfl, rfl⟩ rfl rfl (Nat.le_of_ble_eq_true rfl) rfl ?_
  refine X_if_eq (tgt := 23) Γ d_I_isLeading_4 (by decide) rfl (fun h4 => ?_) (fun h4 => ?_)
  · replace E := E.trans (if_pos h4)
    refine X_iconst (v := 0) Γ d_I_isLeading_23 (by decide) rfl ?_
    exact X_iretz Γ d_I_isLeading_24 rfl E.symm rfl
  · replace E := E.trans (if_neg h4)
    refine X_aload_n Γ d_I_isLeading_7 rfl 0 rfl rfl ?_
    refine X_get Γ d_I_isLeading_8 (by decide) kC_I rfl in_I 3 (by decide) w198 rfl rfl rfl ?_
    refine X_iload_n Γ d_I_isLeading_11 rfl 1 rfl rfl ?_
    refine X_aald Γ d_I_isLeading_12 (by decide) kC_BA 2 rfl (isB_in h4) rfl rfl ?_
    refine X_callVNi (rest := []) Γ d_I_isLeading_13 (m_B_leads l D cI cZ cB cM a hJ P G (2 + x1.toNatClampNeg) (Nat.le_add_right 2 _) (Nat.add_lt_add_left (vp_lt (isB_in h4)) 2)) (Nat.lt_of_lt_of_le (Nat.add_lt_add_left (vp_lt (isB_in h4)) 2) (by decide : 6 ≤ 56)) (kC_B (Nat.le_add_right 2 _) (Nat.add_lt_add_left (vp_lt (isB_in h4)) 2)) rfl rfl w228 w230 s_B_leads w6 w231 e_B_leads ⟨by decide, by decide⟩ ⟨rfl, rfl⟩ rfl rfl (Nat.le_of_ble_eq_true rfl) rfl ?_
    refine X_if_eq (tgt := 23) Γ d_I_isLeading_16 (by decide) rfl (fun h16 => ?_) (fun h16 => ?_)
    · replace E := E.trans (if_pos h16)
      refine X_iconst (v := 0) Γ d_I_isLeading_23 (by decide) rfl ?_
      exact X_iretz Γ d_I_isLeading_24 rfl E.symm rfl
    · replace E := E.trans (if_neg h16)
      refine X_iconst (v := 1) Γ d_I_isLeading_19 (by decide) rfl ?_
      refine X_goto (pc' := 24) Γ d_I_isLeading_20 (by decide) ?_
      exact X_iretz Γ d_I_isLeading_24 rfl E.symm rfl
theorem isUp_in {x : Int32} {G : Nat → Nat → Int32} (h : ¬ f_I_isUp x G = 0) : vp_in x 4 := by
  apply isB_in
  intro q
  apply h
  unfold f_I_isUp
  rw [if_pos q]
theorem isLd_in {x : Int32} {G : Nat → Nat → Int32} (h : ¬ f_I_isLeading x G = 0) : vp_in x 4 := by
  apply isB_in
  intro q
  apply h
  unfold f_I_isLeading
  rw [if_pos q]
def okW (G : Nat → Nat → Int32) (n : Nat) : Prop := 0 ≤ (G n 7).toInt ∧ (G n 7).toInt ≤ 40
theorem cm_init {G : Nat → Nat → Int32} {n : Nat} (h : okW G n) : (G n 7 - 1).toInt + 1 < ((42 : Nat) : Int) ∧ -1 ≤ (G n 7 - 1).toInt := by
  unfold okW at h
  rw [i_sub (by rw [i1]; omega) (by rw [i1]; omega), i1]
  omega
theorem cm_step {v : Int32} {k : Nat} (hI : v.toInt + 1 < ((k + 1 : Nat) : Int) ∧ -1 ≤ v.toInt) (h : ¬ v < 0) : (v + (-1)).toInt + 1 < (k : Int) ∧ -1 ≤ (v + (-1)).toInt := by
  rw [i_lt, i0] at h
  have hb : v.toInt < 2147483648 := by have := Int32.toInt_lt v; omega
  rw [i_add (by rw [im1]; omega) (by rw [im1]; omega), im1]
  omega
def f_I_append (n1_ : Nat) (x2 : Int32) (x3 : Int32) (G : Nat → Nat → Int32) : Int32 × (Nat → Nat → Int32) := (if ((f_L_isFull (n1_ + 4) G)) = 0 then (if (G 0 2) ≤ ((f_Int_bitCount (G n1_ 11))) then (((((f_B_raiseHw n1_ ((f_L_add (n1_ + 4) x2 x3 G)))) (n1_ + 4) 2) - 1), ((f_B_raiseHw n1_ ((f_L_add (n1_ + 4) x2 x3 G))))) else ((-3), G)) else ((-2), G))
theorem e_I_append : y_I_append.cls ≠ "java/lang/invoke/MethodHandle" ∧ y_I_append.cls ≠ "java/lang/invoke/VarHandle" ∧ (parseMethodDescriptor y_I_append.desc).map (fun d => d.parameters.length) = some 3 := by decide +kernel
set_option maxHeartbeats 4000000 in
set_option maxRecDepth 100000 in
theorem m_I_append (l : Launch) (D : va_G) (cI cZ cB cM : ClassId) (a : Nat → Nat) (hJ : xJ 56 a) (P : Nat → Nat) (G : Nat → Nat → Int32) (n1_ : Nat) (n1_1 : 2 ≤ n1_) (n1_2 : n1_ < 6) (x2 : Int32) (x3 : Int32) (hE : okL G (n1_ + 4)) : Met l y_I_append (Cond.code y_I_append prog_1_method_27_code 4 (Option.some FieldType.int) :: wsBig) { frames := 2, cells := 0, slots := 0, locals := 43 } (xP D xcl (xty cI cZ cB cM) 56 a (kg (kC cI cB cM a P) G) [.ref (a 0), .ref (a n1_), .int x2, .int x3]) (xQi D xcl 56 a ((f_I_append n1_ x2 x3 G).1) (kg (kC cI cB cM a P) ((f_I_append n1_ x2 x3 G).2))) 0 0 (xA 56 a) := by
  refine X_met (by decide) rfl (Nat.le_of_ble_eq_true rfl) hJ (fun Y s m args Γ => ?_)
  show X Y s m D xcl 56 a 4 (kg (kC cI cB cM a P) G) 0 [(0, .ref (a 0)), (1, .ref (a n1_)), (2, .int x2), (3, .int x3)] []
  have E := f_I_append.eq_1 n1_ x2 x3 G
  refine X_aload_n Γ d_I_append_0 rfl 1 rfl rfl ?_
  refine X_getN Γ d_I_append_1 (Nat.lt_of_lt_of_le n1_2 (by decide : 6 ≤ 56)) (kC_B n1_1 n1_2) rfl in_B 1 (by decide) w151 rfl rfl rfl ?_
  refine X_callVNi (rest := []) Γ d_I_append_4 (m_L_isFull l D cI cZ cB cM a hJ P G (n1_ + 4) (Nat.le_trans (by decide : 6 ≤ 2 + 4) (Nat.add_le_add_right n1_1 4)) (Nat.lt_of_lt_of_le (Nat.add_lt_add_right n1_2 4) (by decide : 6 + 4 ≤ 10))) (Nat.lt_of_lt_of_le (Nat.lt_of_lt_of_le (Nat.add_lt_add_right n1_2 4) (by decide : 6 + 4 ≤ 10)) (by decide : 10 ≤ 56)) (kC_L (Nat.le_trans (by decide : 6 ≤ 2 + 4) (Nat.add_le_add_right n1_1 4)) (Nat.lt_of_lt_of_le (Nat.add_lt_add_right n1_2 4) (by decide : 6 + 4 ≤ 10))) rfl rfl w236 w238 s_L_isFull w7 w239 e_L_isFull ⟨by decide, by decide⟩ ⟨rfl, rfl⟩ rfl rfl (Nat.le_of_ble_eq_true rfl) rfl ?_
  refine X_if_eq (tgt := 13) Γ d_I_append_7 (by decide) rfl (fun h7 => ?_) (fun h7 => ?_)
  · replace E := E.trans (if_pos h7)
    refine X_aload_n Γ d_I_append_13 rfl 1 rfl rfl ?_
    refine X_getN Γ d_I_append_14 (Nat.lt_of_lt_of_le n1_2 (by decide : 6 ≤ 56)) (kC_B n1_1 n1_2) rfl in_B 11 (by decide) w169 rfl rfl rfl ?_
    refine X_callSi (rest := []) Γ d_I_append_17 (m_Int_bitCount l D _ _ _ _ hJ _ _ (G n1_ 11)) w240 w241 w10 w242 e_Int_bitCount ⟨by decide, by decide⟩ ⟨rfl, rfl⟩ rfl rfl (Nat.le_of_ble_eq_true rfl) rfl ?_
    refine X_aload_n Γ d_I_append_20 rfl 0 rfl rfl ?_
    refine X_get Γ d_I_append_21 (by decide) kC_I rfl in_I 2 (by decide) w197 rfl rfl rfl ?_
    refine X_icmp_ge (tgt := 30) Γ d_I_append_24 (by decide) rfl (fun h24 => ?_) (fun h24 => ?_)
    · replace E := E.trans (if_pos h24)
      refine X_aload_n Γ d_I_append_30 rfl 1 rfl rfl ?_
      refine X_getN Γ d_I_append_31 (Nat.lt_of_lt_of_le n1_2 (by decide : 6 ≤ 56)) (kC_B n1_1 n1_2) rfl in_B 1 (by decide) w151 rfl rfl rfl ?_
      refine X_iload_n Γ d_I_append_34 rfl 2 rfl rfl ?_
      refine X_iload_n Γ d_I_append_35 rfl 3 rfl rfl ?_
      refine X_callVNv (rest := []) Γ d_I_append_36 (m_L_add l D cI cZ cB cM a hJ P G (n1_ + 4) (Nat.le_trans (by decide : 6 ≤ 2 + 4) (Nat.add_le_add_right n1_1 4)) (Nat.lt_of_lt_of_le (Nat.add_lt_add_right n1_2 4) (by decide : 6 + 4 ≤ 10)) x2 x3 hE) (Nat.lt_of_lt_of_le (Nat.lt_of_lt_of_le (Nat.add_lt_add_right n1_2 4) (by decide : 6 + 4 ≤ 10)) (by decide : 10 ≤ 56)) (kC_L (Nat.le_trans (by decide : 6 ≤ 2 + 4) (Nat.add_le_add_right n1_1 4)) (Nat.lt_of_lt_of_le (Nat.add_lt_add_right n1_2 4) (by decide : 6 + 4 ≤ 10))) rfl rfl w246 w248 s_L_add w7 w249 e_L_add ⟨by decide, by decide⟩ ⟨rfl, rfl⟩ rfl rfl (Nat.le_of_ble_eq_true rfl) rfl ?_
      refine X_aload_n Γ d_I_append_39 rfl 1 rfl rfl ?_
      refine X_callVNv (rest := []) Γ d_I_append_40 (m_B_raiseHw l D cI cZ cB cM a hJ P ((f_L_add (n1_ + 4) x2 x3 G)) n1_ n1_1 n1_2) (Nat.lt_of_lt_of_le n1_2 (by decide : 6 ≤ 56)) (kC_B n1_1 n1_2) rfl rfl w251 w253 s_B_raiseHw w6 w254 e_B_raiseHw ⟨by decide, by decide⟩ ⟨rfl, rfl⟩ rfl rfl (Nat.le_of_ble_eq_true rfl) rfl ?_
      refine X_aload_n Γ d_I_append_43 rfl 1 rfl rfl ?_
      refine X_getN Γ d_I_append_44 (Nat.lt_of_lt_of_le n1_2 (by decide : 6 ≤ 56)) (kC_B n1_1 n1_2) rfl in_B 1 (by decide) w151 rfl rfl rfl ?_
      refine X_getN Γ d_I_append_47 (Nat.lt_of_lt_of_le (Nat.lt_of_lt_of_le (Nat.add_lt_add_right n1_2 4) (by decide : 6 + 4 ≤ 10)) (by decide : 10 ≤ 56)) (kC_L (Nat.le_trans (by decide : 6 ≤ 2 + 4) (Nat.add_le_add_right n1_1 4)) (Nat.lt_of_lt_of_le (Nat.add_lt_add_right n1_2 4) (by decide : 6 + 4 ≤ 10))) rfl in_L 2 (by decide) w137 rfl rfl rfl ?_
      refine X_iconst (v := 1) Γ d_I_append_50 (by decide) rfl ?_
      refine X_isub Γ d_I_append_51 rfl ?_
      exact X_ireti Γ d_I_append_52 (g_r E) (g_eq E)
    · replace E := E.trans (if_neg h24)
      refine X_bipush (v := (-3)) Γ d_I_append_27 (by decide) rfl ?_
      exact X_ireti Γ d_I_append_29 (g_r E) (g_eq E)
  · replace E := E.trans (if_neg h7)
    refine X_bipush (v := (-2)) Γ d_I_append_10 (by decide) rfl ?_
    exact X_ireti Γ d_I_append_12 (g_r E) (g_eq E)
end
section
def f_I_produce (x1 : Int32) (x2 : Int32) (G : Nat → Nat → Int32) : Int32 × (Nat → Nat → Int32) := (if ((f_I_isLeading x1 G)) = 0 then ((-1), G) else (((f_I_append (2 + x1.toNatClampNeg) (G (2 + x1.toNatClampNeg) 5) x2 G).1), ((f_I_append (2 + x1.toNatClampNeg) (G (2 + x1.toNatClampNeg) 5) x2 G).2)))
theorem e_I_produce : y_I_produce.cls ≠ "java/lang/invoke/MethodHandle" ∧ y_I_produce.cls ≠ "java/lang/invoke/VarHandle" ∧ (parseMethodDescriptor y_I_produce.desc).map (fun d => d.parameters.length) = some 2 := by decide +kernel
set_option maxHeartbeats 4000000 in
set_option maxRecDepth 100000 in
theorem m_I_produce (l : Launch) (D : va_G) (cI cZ cB cM : ClassId) (a : Nat → Nat) (hJ : xJ 56 a) (P : Nat → Nat) (G : Nat → Nat → Int32) (x1 : Int32) (x2 : Int32) (hE : ∀ j : Nat, j < 4 → okL G (2 + j + 4)) : Met l y_I_produce (Cond.code y_I_produce prog_1_method_2_code 3 (Option.some FieldType.int) :: wsBig) { frames := 3, cells := 0, slots := 0, locals := 66 } (xP D xcl (xty cI cZ cB cM) 56 a (kg (kC cI cB cM a P) G) [.ref (a 0), .int x1, .int x2]) (xQi D xcl 56 a ((f_I_produce x1 x2 G).1) (kg (kC cI cB cM a P) ((f_I_produce x1 x2 G).2))) 0 0 (xA 56 a) := by
  refine X_met (by decide) rfl (Nat.le_of_ble_eq_true rfl) hJ (fun Y s m args Γ => ?_)
  show X Y s m D xcl 56 a 3 (kg (kC cI cB cM a P) G) 0 [(0, .ref (a 0)), (1, .int x1), (2, .int x2)] []
  have E := f_I_produce.eq_1 x1 x2 G
  refine X_aload_n Γ d_I_produce_0 rfl 0 rfl rfl ?_
  refine X_iload_n Γ d_I_produce_1 rfl 1 rfl rfl ?_
  refine X_callVi (rest := []) Γ d_I_produce_2 (m_I_isLeading l D cI cZ cB cM a hJ P G x1) (by decide) kC_I rfl rfl w221 w223 s_I_isLeading w1 w224 e_I_isLeading ⟨by decide, by decide⟩ ⟨rfl, rfl⟩ rfl rfl (Nat.le_of_ble_eq_true rfl) rfl ?_
  refine X_if_ne (tgt := 10) Γ d_I_produce_5 (by decide) rfl (fun h5 => ?_) (fun h5 => ?_)
  · replace E := E.trans (if_neg h5)
    refine X_aload_n Γ d_I_produce_10 rfl 0 rfl rfl ?_
    refine X_aload_n Γ d_I_produce_11 rfl 0 rfl rfl ?_
    refine X_get Γ d_I_produce_12 (by decide) kC_I rfl in_I 3 (by decide) w198 rfl rfl rfl ?_
    refine X_iload_n Γ d_I_produce_15 rfl 1 rfl rfl ?_
    refine X_aald Γ d_I_produce_16 (by decide) kC_BA 2 rfl (isLd_in h5) rfl rfl ?_
    refine X_aload_n Γ d_I_produce_17 rfl 0 rfl rfl ?_
    refine X_get Γ d_I_produce_18 (by decide) kC_I rfl in_I 3 (by decide) w198 rfl rfl rfl ?_
    refine X_iload_n Γ d_I_produce_21 rfl 1 rfl rfl ?_
    refine X_aald Γ d_I_produce_22 (by decide) kC_BA 2 rfl (isLd_in h5) rfl rfl ?_
    refine X_getN Γ d_I_produce_23 (Nat.lt_of_lt_of_le (Nat.add_lt_add_left (vp_lt (isLd_in h5)) 2) (by decide : 6 ≤ 56)) (kC_B (Nat.le_add_right 2 _) (Nat.add_lt_add_left (vp_lt (isLd_in h5)) 2)) rfl in_B 5 (by decide) w157 rfl rfl rfl ?_
    refine X_iload_n Γ d_I_produce_26 rfl 2 rfl rfl ?_
    refine X_callVi (rest := []) Γ d_I_produce_27 (m_I_append l D cI cZ cB cM a hJ P G (2 + x1.toNatClampNeg) (Nat.le_add_right 2 _) (Nat.add_lt_add_left (vp_lt (isLd_in h5)) 2) (G (2 + x1.toNatClampNeg) 5) x2 (hE _ (vp_lt (isLd_in h5)))) (by decide) kC_I rfl rfl w232 w234 s_I_append w1 w235 e_I_append ⟨by decide, by decide⟩ ⟨rfl, rfl⟩ rfl rfl (Nat.le_of_ble_eq_true rfl) rfl ?_
    exact X_ireti Γ d_I_produce_30 (g_r E) (g_eq E)
  · replace E := E.trans (if_pos h5)
    refine X_iconst (v := (-1)) Γ d_I_produce_8 (by decide) rfl ?_
    exact X_ireti Γ d_I_produce_9 (g_r E) (g_eq E)
def f_I_commit (x1 : Int32) (x2 : Int32) (G : Nat → Nat → Int32) : Int32 × (Nat → Nat → Int32) := (if ((f_I_isLeading x1 G)) = 0 then ((-1), G) else (if x2 < 0 then ((-1), G) else (if x2 ≤ (G (2 + x1.toNatClampNeg) 7) then (((f_I_append (2 + x1.toNatClampNeg) (-(G (2 + x1.toNatClampNeg) 5)) x2 G).1), ((f_I_append (2 + x1.toNatClampNeg) (-(G (2 + x1.toNatClampNeg) 5)) x2 G).2)) else ((-1), G))))
theorem e_I_commit : y_I_commit.cls ≠ "java/lang/invoke/MethodHandle" ∧ y_I_commit.cls ≠ "java/lang/invoke/VarHandle" ∧ (parseMethodDescriptor y_I_commit.desc).map (fun d => d.parameters.length) = some 2 := by decide +kernel
set_option maxHeartbeats 4000000 in
set_option maxRecDepth 100000 in
theorem m_I_commit (l : Launch) (D : va_G) (cI cZ cB cM : ClassId) (a : Nat → Nat) (hJ : xJ 56 a) (P : Nat → Nat) (G : Nat → Nat → Int32) (x1 : Int32) (x2 : Int32) (hE : ∀ j : Nat, j < 4 → okL G (2 + j + 4)) : Met l y_I_commit (Cond.code y_I_commit prog_1_method_3_code 3 (Option.some FieldType.int) :: wsBig) { frames := 3, cells := 0, slots := 0, locals := 66 } (xP D xcl (xty cI cZ cB cM) 56 a (kg (kC cI cB cM a P) G) [.ref (a 0), .int x1, .int x2]) (xQi D xcl 56 a ((f_I_commit x1 x2 G).1) (kg (kC cI cB cM a P) ((f_I_commit x1 x2 G).2))) 0 0 (xA 56 a) := by
  refine X_met (by decide) rfl (Nat.le_of_ble_eq_true rfl) hJ (fun Y s m args Γ => ?_)
  show X Y s m D xcl 56 a 3 (kg (kC cI cB cM a P) G) 0 [(0, .ref (a 0)), (1, .int x1), (2, .int x2)] []
  have E := f_I_commit.eq_1 x1 x2 G
  refine X_aload_n Γ d_I_commit_0 rfl 0 rfl rfl ?_
  refine X_iload_n Γ d_I_commit_1 rfl 1 rfl rfl ?_
  refine X_callVi (rest := []) Γ d_I_commit_2 (m_I_isLeading l D cI cZ cB cM a hJ P G x1) (by decide) kC_I rfl rfl w221 w223 s_I_isLeading w1 w224 e_I_isLeading ⟨by decide, by decide⟩ ⟨rfl, rfl⟩ rfl rfl (Nat.le_of_ble_eq_true rfl) rfl ?_
  refine X_if_eq (tgt := 25) Γ d_I_commit_5 (by decide) rfl (fun h5 => ?_) (fun h5 => ?_)
  · replace E := E.trans (if_pos h5)
    refine X_iconst (v := (-1)) Γ d_I_commit_25 (by decide) rfl ?_
    exact X_ireti Γ d_I_commit_26 (g_r E) (g_eq E)
  · replace E := E.trans (if_neg h5)
    refine X_iload_n Γ d_I_commit_8 rfl 2 rfl rfl ?_
    refine X_if_lt (tgt := 25) Γ d_I_commit_9 (by decide) rfl (fun h9 => ?_) (fun h9 => ?_)
    · replace E := E.trans (if_pos h9)
      refine X_iconst (v := (-1)) Γ d_I_commit_25 (by decide) rfl ?_
      exact X_ireti Γ d_I_commit_26 (g_r E) (g_eq E)
    · replace E := E.trans (if_neg h9)
      refine X_iload_n Γ d_I_commit_12 rfl 2 rfl rfl ?_
      refine X_aload_n Γ d_I_commit_13 rfl 0 rfl rfl ?_
      refine X_get Γ d_I_commit_14 (by decide) kC_I rfl in_I 3 (by decide) w198 rfl rfl rfl ?_
      refine X_iload_n Γ d_I_commit_17 rfl 1 rfl rfl ?_
      refine X_aald Γ d_I_commit_18 (by decide) kC_BA 2 rfl (isLd_in h5) rfl rfl ?_
      refine X_getN Γ d_I_commit_19 (Nat.lt_of_lt_of_le (Nat.add_lt_add_left (vp_lt (isLd_in h5)) 2) (by decide : 6 ≤ 56)) (kC_B (Nat.le_add_right 2 _) (Nat.add_lt_add_left (vp_lt (isLd_in h5)) 2)) rfl in_B 7 (by decide) w162 rfl rfl rfl ?_
      refine X_icmp_le (tgt := 27) Γ d_I_commit_22 (by decide) rfl (fun h22 => ?_) (fun h22 => ?_)
      · replace E := E.trans (if_pos h22)
        refine X_aload_n Γ d_I_commit_27 rfl 0 rfl rfl ?_
        refine X_aload_n Γ d_I_commit_28 rfl 0 rfl rfl ?_
        refine X_get Γ d_I_commit_29 (by decide) kC_I rfl in_I 3 (by decide) w198 rfl rfl rfl ?_
        refine X_iload_n Γ d_I_commit_32 rfl 1 rfl rfl ?_
        refine X_aald Γ d_I_commit_33 (by decide) kC_BA 2 rfl (isLd_in h5) rfl rfl ?_
        refine X_aload_n Γ d_I_commit_34 rfl 0 rfl rfl ?_
        refine X_get Γ d_I_commit_35 (by decide) kC_I rfl in_I 3 (by decide) w198 rfl rfl rfl ?_
        refine X_iload_n Γ d_I_commit_38 rfl 1 rfl rfl ?_
        refine X_aald Γ d_I_commit_39 (by decide) kC_BA 2 rfl (isLd_in h5) rfl rfl ?_
        refine X_getN Γ d_I_commit_40 (Nat.lt_of_lt_of_le (Nat.add_lt_add_left (vp_lt (isLd_in h5)) 2) (by decide : 6 ≤ 56)) (kC_B (Nat.le_add_right 2 _) (Nat.add_lt_add_left (vp_lt (isLd_in h5)) 2)) rfl in_B 5 (by decide) w157 rfl rfl rfl ?_
        refine X_ineg Γ d_I_commit_43 rfl ?_
        refine X_iload_n Γ d_I_commit_44 rfl 2 rfl rfl ?_
        refine X_callVi (rest := []) Γ d_I_commit_45 (m_I_append l D cI cZ cB cM a hJ P G (2 + x1.toNatClampNeg) (Nat.le_add_right 2 _) (Nat.add_lt_add_left (vp_lt (isLd_in h5)) 2) (-(G (2 + x1.toNatClampNeg) 5)) x2 (hE _ (vp_lt (isLd_in h5)))) (by decide) kC_I rfl rfl w232 w234 s_I_append w1 w235 e_I_append ⟨by decide, by decide⟩ ⟨rfl, rfl⟩ rfl rfl (Nat.le_of_ble_eq_true rfl) rfl ?_
        exact X_ireti Γ d_I_commit_48 (g_r E) (g_eq E)
      · replace E := E.trans (if_neg h22)
        refine X_iconst (v := (-1)) Γ d_I_commit_25 (by decide) rfl ?_
        exact X_ireti Γ d_I_commit_26 (g_r E) (g_eq E)
def f_I_readable (x1 : Int32) (x2 : Int32) (G : Nat → Nat → Int32) : Int32 := (if ((f_I_isLeading x1 G)) = 0 then 0 else (if (G (2 + x1.toNatClampNeg) 7) ≤ x2 then 0 else (if ((f_L_has (2 + x1.toNatClampNeg + 4) x2 G)) = 0 then 0 else (if ((f_L_isMark (2 + x1.toNatClampNeg + 4) x2 G)) = 0 then 1 else 2))))
theorem e_I_readable : y_I_readable.cls ≠ "java/lang/invoke/MethodHandle" ∧ y_I_readable.cls ≠ "java/lang/invoke/VarHandle" ∧ (parseMethodDescriptor y_I_readable.desc).map (fun d => d.parameters.length) = some 2 := by decide +kernel
set_option maxHeartbeats 4000000 in
set_option maxRecDepth 100000 in
theorem m_I_readable (l : Launch) (D : va_G) (cI cZ cB cM : ClassId) (a : Nat → Nat) (hJ : xJ 56 a) (P : Nat → Nat) (G : Nat → Nat → Int32) (x1 : Int32) (x2 : Int32) (hE : ∀ j : Nat, j < 4 → okL G (2 + j + 4)) : Met l y_I_readable (Cond.code y_I_readable prog_1_method_4_code 3 (Option.some FieldType.int) :: wsBig) { frames := 3, cells := 0, slots := 0, locals := 63 } (xP D xcl (xty cI cZ cB cM) 56 a (kg (kC cI cB cM a P) G) [.ref (a 0), .int x1, .int x2]) (xQi D xcl 56 a (f_I_readable x1 x2 G) (kg (kC cI cB cM a P) G)) 0 0 (xA 56 a) := by
  refine X_met (by decide) rfl (Nat.le_of_ble_eq_true rfl) hJ (fun Y s m args Γ => ?_)
  show X Y s m D xcl 56 a 3 (kg (kC cI cB cM a P) G) 0 [(0, .ref (a 0)), (1, .int x1), (2, .int x2)] []
  have E := f_I_readable.eq_1 x1 x2 G
  refine X_aload_n Γ d_I_readable_0 rfl 0 rfl rfl ?_
  refine X_iload_n Γ d_I_readable_1 rfl 1 rfl rfl ?_
  refine X_callVi (rest := []) Γ d_I_readable_2 (m_I_isLeading l D cI cZ cB cM a hJ P G x1) (by decide) kC_I rfl rfl w221 w223 s_I_isLeading w1 w224 e_I_isLeading ⟨by decide, by decide⟩ ⟨rfl, rfl⟩ rfl rfl (Nat.le_of_ble_eq_true rfl) rfl ?_
  refine X_if_eq (tgt := 37) Γ d_I_readable_5 (by decide) rfl (fun h5 => ?_) (fun h5 => ?_)
  · replace E := E.trans (if_pos h5)
    refine X_iconst (v := 0) Γ d_I_readable_37 (by decide) rfl ?_
    exact X_ireti Γ d_I_readable_38 E.symm rfl
  · replace E := E.trans (if_neg h5)
    refine X_iload_n Γ d_I_readable_8 rfl 2 rfl rfl ?_
    refine X_aload_n Γ d_I_readable_9 rfl 0 rfl rfl ?_
    refine X_get Γ d_I_readable_10 (by decide) kC_I rfl in_I 3 (by decide) w198 rfl rfl rfl ?_
    refine X_iload_n Γ d_I_readable_13 rfl 1 rfl rfl ?_
    refine X_aald Γ d_I_readable_14 (by decide) kC_BA 2 rfl (isLd_in h5) rfl rfl ?_
    refine X_getN Γ d_I_readable_15 (Nat.lt_of_lt_of_le (Nat.add_lt_add_left (vp_lt (isLd_in h5)) 2) (by decide : 6 ≤ 56)) (kC_B (Nat.le_add_right 2 _) (Nat.add_lt_add_left (vp_lt (isLd_in h5)) 2)) rfl in_B 7 (by decide) w162 rfl rfl rfl ?_
    refine X_icmp_ge (tgt := 37) Γ d_I_readable_18 (by decide) rfl (fun h18 => ?_) (fun h18 => ?_)
    · replace E := E.trans (if_pos h18)
      refine X_iconst (v := 0) Γ d_I_readable_37 (by decide) rfl ?_
      exact X_ireti Γ d_I_readable_38 E.symm rfl
    · replace E := E.trans (if_neg h18)
      refine X_aload_n Γ d_I_readable_21 rfl 0 rfl rfl ?_
      refine X_get Γ d_I_readable_22 (by decide) kC_I rfl in_I 3 (by decide) w198 rfl rfl rfl ?_
      refine X_iload_n Γ d_I_readable_25 rfl 1 rfl rfl ?_
      refine X_aald Γ d_I_readable_26 (by decide) kC_BA 2 rfl (isLd_in h5) rfl rfl ?_
      refine X_getN Γ d_I_readable_27 (Nat.lt_of_lt_of_le (Nat.add_lt_add_left (vp_lt (isLd_in h5)) 2) (by decide : 6 ≤ 56)) (kC_B (Nat.le_add_right 2 _) (Nat.add_lt_add_left (vp_lt (isLd_in h5)) 2)) rfl in_B 1 (by decide) w151 rfl rfl rfl ?_
      refine X_iload_n Γ d_I_readable_30 rfl 2 rfl rfl ?_
      refine X_callVNi (rest := []) Γ d_I_readable_31 (m_L_has l D cI cZ cB cM a hJ P G (2 + x1.toNatClampNeg + 4) (Nat.le_trans (by decide : 6 ≤ 2 + 4) (Nat.add_le_add_right (Nat.le_add_right 2 _) 4)) (Nat.lt_of_lt_of_le (Nat.add_lt_add_right (Nat.add_lt_add_left (vp_lt (isLd_in h5)) 2) 4) (by decide : 6 + 4 ≤ 10)) x2) (Nat.lt_of_lt_of_le (Nat.lt_of_lt_of_le (Nat.add_lt_add_right (Nat.add_lt_add_left (vp_lt (isLd_in h5)) 2) 4) (by decide : 6 + 4 ≤ 10)) (by decide : 10 ≤ 56)) (kC_L (Nat.le_trans (by decide : 6 ≤ 2 + 4) (Nat.add_le_add_right (Nat.le_add_right 2 _) 4)) (Nat.lt_of_lt_of_le (Nat.add_lt_add_right (Nat.add_lt_add_left (vp_lt (isLd_in h5)) 2) 4) (by decide : 6 + 4 ≤ 10))) rfl rfl w268 w270 s_L_has w7 w271 e_L_has ⟨by decide, by decide⟩ ⟨rfl, rfl⟩ rfl rfl (Nat.le_of_ble_eq_true rfl) rfl ?_
      refine X_if_ne (tgt := 39) Γ d_I_readable_34 (by decide) rfl (fun h34 => ?_) (fun h34 => ?_)
      · replace E := E.trans (if_neg h34)
        refine X_aload_n Γ d_I_readable_39 rfl 0 rfl rfl ?_
        refine X_get Γ d_I_readable_40 (by decide) kC_I rfl in_I 3 (by decide) w198 rfl rfl rfl ?_
        refine X_iload_n Γ d_I_readable_43 rfl 1 rfl rfl ?_
        refine X_aald Γ d_I_readable_44 (by decide) kC_BA 2 rfl (isLd_in h5) rfl rfl ?_
        refine X_getN Γ d_I_readable_45 (Nat.lt_of_lt_of_le (Nat.add_lt_add_left (vp_lt (isLd_in h5)) 2) (by decide : 6 ≤ 56)) (kC_B (Nat.le_add_right 2 _) (Nat.add_lt_add_left (vp_lt (isLd_in h5)) 2)) rfl in_B 1 (by decide) w151 rfl rfl rfl ?_
        refine X_iload_n Γ d_I_readable_48 rfl 2 rfl rfl ?_
        refine X_callVNi (rest := []) Γ d_I_readable_49 (m_L_isMark l D cI cZ cB cM a hJ P G (2 + x1.toNatClampNeg + 4) (Nat.le_trans (by decide : 6 ≤ 2 + 4) (Nat.add_le_add_right (Nat.le_add_right 2 _) 4)) (Nat.lt_of_lt_of_le (Nat.add_lt_add_right (Nat.add_lt_add_left (vp_lt (isLd_in h5)) 2) 4) (by decide : 6 + 4 ≤ 10)) x2 (hE _ (vp_lt (isLd_in h5)))) (Nat.lt_of_lt_of_le (Nat.lt_of_lt_of_le (Nat.add_lt_add_right (Nat.add_lt_add_left (vp_lt (isLd_in h5)) 2) 4) (by decide : 6 + 4 ≤ 10)) (by decide : 10 ≤ 56)) (kC_L (Nat.le_trans (by decide : 6 ≤ 2 + 4) (Nat.add_le_add_right (Nat.le_add_right 2 _) 4)) (Nat.lt_of_lt_of_le (Nat.add_lt_add_right (Nat.add_lt_add_left (vp_lt (isLd_in h5)) 2) 4) (by decide : 6 + 4 ≤ 10))) rfl rfl w272 w274 s_L_isMark w7 w275 e_L_isMark ⟨by decide, by decide⟩ ⟨rfl, rfl⟩ rfl rfl (Nat.le_of_ble_eq_true rfl) rfl ?_
        refine X_if_eq (tgt := 59) Γ d_I_readable_52 (by decide) rfl (fun h52 => ?_) (fun h52 => ?_)
        · replace E := E.trans (if_pos h52)
          refine X_iconst (v := 1) Γ d_I_readable_59 (by decide) rfl ?_
          exact X_ireti Γ d_I_readable_60 E.symm rfl
        · replace E := E.trans (if_neg h52)
          refine X_iconst (v := 2) Γ d_I_readable_55 (by decide) rfl ?_
          refine X_goto (pc' := 60) Γ d_I_readable_56 (by decide) ?_
          exact X_ireti Γ d_I_readable_60 E.symm rfl
      · replace E := E.trans (if_pos h34)
        refine X_iconst (v := 0) Γ d_I_readable_37 (by decide) rfl ?_
        exact X_ireti Γ d_I_readable_38 E.symm rfl
def f_I_committed_32 (x1 : Int32) (G : Nat → Nat → Int32) : Nat → Int32 → Int32
  | 0, v3_32 => 0
  | k32 + 1, v3_32 => (if v3_32 < 0 then (-1) else (if ((f_L_isMark (2 + x1.toNatClampNeg + 4) v3_32 G)) = 0 then (f_I_committed_32 x1 G k32 (v3_32 + (-1))) else ((f_L_valueOf (2 + x1.toNatClampNeg + 4) v3_32 G))))
def f_I_committed (x1 : Int32) (G : Nat → Nat → Int32) : Int32 := (if ((f_I_isLeading x1 G)) = 0 then (-1) else (f_I_committed_32 x1 G 42 ((G (2 + x1.toNatClampNeg) 7) - 1)))
theorem e_I_committed : y_I_committed.cls ≠ "java/lang/invoke/MethodHandle" ∧ y_I_committed.cls ≠ "java/lang/invoke/VarHandle" ∧ (parseMethodDescriptor y_I_committed.desc).map (fun d => d.parameters.length) = some 1 := by decide +kernel
set_option maxHeartbeats 4000000 in
set_option maxRecDepth 100000 in
theorem m_I_committed (l : Launch) (D : va_G) (cI cZ cB cM : ClassId) (a : Nat → Nat) (hJ : xJ 56 a) (P : Nat → Nat) (G : Nat → Nat → Int32) (x1 : Int32) (hE : ∀ j : Nat, j < 4 → okL G (2 + j + 4)) (hW : ∀ j : Nat, j < 4 → okW G (2 + j)) : Met l y_I_committed (Cond.code y_I_committed prog_1_method_5_code 4 (Option.some FieldType.int) :: wsBig) { frames := 3, cells := 0, slots := 0, locals := 63 } (xP D xcl (xty cI cZ cB cM) 56 a (kg (kC cI cB cM a P) G) [.ref (a 0), .int x1]) (xQi D xcl 56 a (f_I_committed x1 G) (kg (kC cI cB cM a P) G)) 0 0 (xA 56 a) := by
  refine X_met (by decide) rfl (Nat.le_of_ble_eq_true rfl) hJ (fun Y s m args Γ => ?_)
  show X Y s m D xcl 56 a 4 (kg (kC cI cB cM a P) G) 0 [(0, .ref (a 0)), (1, .int x1)] []
  have E := f_I_committed.eq_1 x1 G
  refine X_aload_n Γ d_I_committed_0 rfl 0 rfl rfl ?_
  refine X_iload_n Γ d_I_committed_1 rfl 1 rfl rfl ?_
  refine X_callVi (rest := []) Γ d_I_committed_2 (m_I_isLeading l D cI cZ cB cM a hJ P G x1) (by decide) kC_I rfl rfl w221 w223 s_I_isLeading w1 w224 e_I_isLeading ⟨by decide, by decide⟩ ⟨rfl, rfl⟩ rfl rfl (Nat.le_of_ble_eq_true rfl) rfl ?_
  refine X_if_ne (tgt := 10) Γ d_I_committed_5 (by decide) rfl (fun h5 => ?_) (fun h5 => ?_)
  · replace E := E.trans (if_neg h5)
    refine X_aload_n Γ d_I_committed_10 rfl 0 rfl rfl ?_
    refine X_get Γ d_I_committed_11 (by decide) kC_I rfl in_I 3 (by decide) w198 rfl rfl rfl ?_
    refine X_iload_n Γ d_I_committed_14 rfl 1 rfl rfl ?_
    refine X_aald Γ d_I_committed_15 (by decide) kC_BA 2 rfl (isLd_in h5) rfl rfl ?_
    refine X_getN Γ d_I_committed_16 (Nat.lt_of_lt_of_le (Nat.add_lt_add_left (vp_lt (isLd_in h5)) 2) (by decide : 6 ≤ 56)) (kC_B (Nat.le_add_right 2 _) (Nat.add_lt_add_left (vp_lt (isLd_in h5)) 2)) rfl in_B 1 (by decide) w151 rfl rfl rfl ?_
    refine X_astore_n Γ d_I_committed_19 rfl (by decide) rfl rfl ?_
    refine X_aload_n Γ d_I_committed_20 rfl 1 rfl rfl ?_
    refine X_get Γ d_I_committed_21 (by decide) kC_I rfl in_I 3 (by decide) w198 rfl rfl rfl ?_
    refine X_iload_n Γ d_I_committed_24 rfl 2 rfl rfl ?_
    refine X_aald Γ d_I_committed_25 (by decide) kC_BA 2 rfl (isLd_in h5) rfl rfl ?_
    refine X_getN Γ d_I_committed_26 (Nat.lt_of_lt_of_le (Nat.add_lt_add_left (vp_lt (isLd_in h5)) 2) (by decide : 6 ≤ 56)) (kC_B (Nat.le_add_right 2 _) (Nat.add_lt_add_left (vp_lt (isLd_in h5)) 2)) rfl in_B 7 (by decide) w162 rfl rfl rfl ?_
    refine X_iconst (v := 1) Γ d_I_committed_29 (by decide) rfl ?_
    refine X_isub Γ d_I_committed_30 rfl ?_
    refine X_istore_n Γ d_I_committed_31 rfl (by decide) rfl rfl ?_
    have J32 : ∀ (k32 : Nat) (v3_32 : Int32), (v3_32.toInt + 1 < k32 ∧ -1 ≤ v3_32.toInt) → f_I_committed x1 G = f_I_committed_32 x1 G k32 v3_32 → X Y s m D xcl 56 a 4 (kg (kC cI cB cM a P) G) 32 [(0, .ref (a 0)), (1, .int x1), (2, .ref (a (2 + x1.toNatClampNeg + 4))), (3, .int v3_32)] [] := by
      intro k32
      induction k32 with
      | zero => exact fun v3_32 hI32 _ => absurd hI32 (fun h => by omega)
      | succ k32 ih32 =>
        intro v3_32 hI32 E
        rw [f_I_committed_32] at E
        refine X_iload_n Γ d_I_committed_32 rfl 3 rfl rfl ?_
        refine X_if_lt (tgt := 56) Γ d_I_committed_33 (by decide) rfl (fun h33 => ?_) (fun h33 => ?_)
        · replace E := E.trans (if_pos h33)
          refine X_iconst (v := (-1)) Γ d_I_committed_56 (by decide) rfl ?_
          exact X_ireti Γ d_I_committed_57 E.symm rfl
        · replace E := E.trans (if_neg h33)
          refine X_aload_n Γ d_I_committed_36 rfl 2 rfl rfl ?_
          refine X_iload_n Γ d_I_committed_37 rfl 3 rfl rfl ?_
          refine X_callVNi (rest := []) Γ d_I_committed_38 (m_L_isMark l D cI cZ cB cM a hJ P G (2 + x1.toNatClampNeg + 4) (Nat.le_trans (by decide : 6 ≤ 2 + 4) (Nat.add_le_add_right (Nat.le_add_right 2 _) 4)) (Nat.lt_of_lt_of_le (Nat.add_lt_add_right (Nat.add_lt_add_left (vp_lt (isLd_in h5)) 2) 4) (by decide : 6 + 4 ≤ 10)) v3_32 (hE _ (vp_lt (isLd_in h5)))) (Nat.lt_of_lt_of_le (Nat.lt_of_lt_of_le (Nat.add_lt_add_right (Nat.add_lt_add_left (vp_lt (isLd_in h5)) 2) 4) (by decide : 6 + 4 ≤ 10)) (by decide : 10 ≤ 56)) (kC_L (Nat.le_trans (by decide : 6 ≤ 2 + 4) (Nat.add_le_add_right (Nat.le_add_right 2 _) 4)) (Nat.lt_of_lt_of_le (Nat.add_lt_add_right (Nat.add_lt_add_left (vp_lt (isLd_in h5)) 2) 4) (by decide : 6 + 4 ≤ 10))) rfl rfl w272 w274 s_L_isMark w7 w275 e_L_isMark ⟨by decide, by decide⟩ ⟨rfl, rfl⟩ rfl rfl (Nat.le_of_ble_eq_true rfl) rfl ?_
          refine X_if_eq (tgt := 50) Γ d_I_committed_41 (by decide) rfl (fun h41 => ?_) (fun h41 => ?_)
          · replace E := E.trans (if_pos h41)
            refine X_iinc (v := (v3_32 + (-1))) Γ d_I_committed_50 3 rfl rfl (by decide) rfl rfl ?_
            refine X_goto (pc' := 32) Γ d_I_committed_53 (by decide) ?_
            refine X_loc [1, 2, 3, 0] rfl ?_
            exact ih32 (v3_32 + (-1)) (cm_step hI32 h33) E
          · replace E := E.trans (if_neg h41)
            refine X_aload_n Γ d_I_committed_44 rfl 2 rfl rfl ?_
            refine X_iload_n Γ d_I_committed_45 rfl 3 rfl rfl ?_
            refine X_callVNi (rest := []) Γ d_I_committed_46 (m_L_valueOf l D cI cZ cB cM a hJ P G (2 + x1.toNatClampNeg + 4) (Nat.le_trans (by decide : 6 ≤ 2 + 4) (Nat.add_le_add_right (Nat.le_add_right 2 _) 4)) (Nat.lt_of_lt_of_le (Nat.add_lt_add_right (Nat.add_lt_add_left (vp_lt (isLd_in h5)) 2) 4) (by decide : 6 + 4 ≤ 10)) v3_32 (hE _ (vp_lt (isLd_in h5)))) (Nat.lt_of_lt_of_le (Nat.lt_of_lt_of_le (Nat.add_lt_add_right (Nat.add_lt_add_left (vp_lt (isLd_in h5)) 2) 4) (by decide : 6 + 4 ≤ 10)) (by decide : 10 ≤ 56)) (kC_L (Nat.le_trans (by decide : 6 ≤ 2 + 4) (Nat.add_le_add_right (Nat.le_add_right 2 _) 4)) (Nat.lt_of_lt_of_le (Nat.add_lt_add_right (Nat.add_lt_add_left (vp_lt (isLd_in h5)) 2) 4) (by decide : 6 + 4 ≤ 10))) rfl rfl w285 w287 s_L_valueOf w7 w288 e_L_valueOf ⟨by decide, by decide⟩ ⟨rfl, rfl⟩ rfl rfl (Nat.le_of_ble_eq_true rfl) rfl ?_
            exact X_ireti Γ d_I_committed_49 E.symm rfl
    refine X_loc [2, 3, 1, 0] rfl ?_
    exact J32 42 ((G (2 + x1.toNatClampNeg) 7) - 1) (cm_init (hW _ (vp_lt (isLd_in h5)))) E
  · replace E := E.trans (if_pos h5)
    refine X_iconst (v := (-1)) Γ d_I_committed_8 (by decide) rfl ?_
    exact X_ireti Γ d_I_committed_9 E.symm rfl
end
section
def f_I_fetch (x1 : Int32) (G : Nat → Nat → Int32) (P : Nat → Nat) : Int32 × (Nat → Nat → Int32) := (if ((f_I_isUp x1 G)) = 0 then (0, G) else (if ((f_B_leads (2 + x1.toNatClampNeg) G)) = 0 then (if (G (2 + x1.toNatClampNeg) 6) = (-1) then (0, G) else (jn ((f_H_send 0 (2 + x1.toNatClampNeg) ((g2 (g2 G (2 + x1.toNatClampNeg) 8 ((G (2 + x1.toNatClampNeg) 8) + 1)) (2 + x1.toNatClampNeg) 9 1) (2 + x1.toNatClampNeg) 6) ((g2 (g2 G (2 + x1.toNatClampNeg) 8 ((G (2 + x1.toNatClampNeg) 8) + 1)) (2 + x1.toNatClampNeg) 9 1) (2 + x1.toNatClampNeg) 8) ((g2 (g2 G (2 + x1.toNatClampNeg) 8 ((G (2 + x1.toNatClampNeg) 8) + 1)) (2 + x1.toNatClampNeg) 9 1) (2 + x1.toNatClampNeg + 4) 2) ((f_L_lastEpoch (2 + x1.toNatClampNeg + 4) (g2 (g2 G (2 + x1.toNatClampNeg) 8 ((G (2 + x1.toNatClampNeg) 8) + 1)) (2 + x1.toNatClampNeg) 9 1))) (g2 (g2 G (2 + x1.toNatClampNeg) 8 ((G (2 + x1.toNatClampNeg) 8) + 1)) (2 + x1.toNatClampNeg) 9 1) P).2) (fun (G1 : Nat → Nat → Int32) => (1, G1)))) else (0, G)))
theorem e_I_fetch : y_I_fetch.cls ≠ "java/lang/invoke/MethodHandle" ∧ y_I_fetch.cls ≠ "java/lang/invoke/VarHandle" ∧ (parseMethodDescriptor y_I_fetch.desc).map (fun d => d.parameters.length) = some 1 := by decide +kernel
set_option maxHeartbeats 4000000 in
set_option maxRecDepth 100000 in
theorem m_I_fetch (l : Launch) (D : va_G) (cI cZ cB cM : ClassId) (a : Nat → Nat) (hJ : xJ 56 a) (P : Nat → Nat) (G : Nat → Nat → Int32) (x1 : Int32) (hE : ∀ j : Nat, j < 4 → okL G (2 + j + 4)) (hP9 : ∀ j : Nat, j < 9 → P j < 9) (hc : okH G) : Met l y_I_fetch (Cond.code y_I_fetch prog_1_method_6_code 3 (Option.some FieldType.boolean) :: wsBig) { frames := 4, cells := 0, slots := 0, locals := 83 } (xP D xcl (xty cI cZ cB cM) 56 a (kg (kC cI cB cM a P) G) [.ref (a 0), .int x1]) (xQi D xcl 56 a ((f_I_fetch x1 G P).1) (kg (kC cI cB cM a P) ((f_I_fetch x1 G P).2))) 0 0 (xA 56 a) := by
  refine X_met (by decide) rfl (Nat.le_of_ble_eq_true rfl) hJ (fun Y s m args Γ => ?_)
  show X Y s m D xcl 56 a 3 (kg (kC cI cB cM a P) G) 0 [(0, .ref (a 0)), (1, .int x1)] []
  have E := f_I_fetch.eq_1 x1 G P
  refine X_aload_n Γ d_I_fetch_0 rfl 0 rfl rfl ?_
  refine X_iload_n Γ d_I_fetch_1 rfl 1 rfl rfl ?_
  refine X_callVi (rest := []) Γ d_I_fetch_2 (m_I_isUp l D cI cZ cB cM a hJ P G x1) (by decide) kC_I rfl rfl w293 w295 s_I_isUp w1 w296 e_I_isUp ⟨by decide, by decide⟩ ⟨rfl, rfl⟩ rfl rfl (Nat.le_of_ble_eq_true rfl) rfl ?_
  refine X_if_eq (tgt := 33) Γ d_I_fetch_5 (by decide) rfl (fun h5 => ?_) (fun h5 => ?_)
  · replace E := E.trans (if_pos h5)
    refine X_iconst (v := 0) Γ d_I_fetch_33 (by decide) rfl ?_
    exact X_iretz Γ d_I_fetch_34 rfl (g_r E) (g_eq E)
  · replace E := E.trans (if_neg h5)
    refine X_aload_n Γ d_I_fetch_8 rfl 0 rfl rfl ?_
    refine X_get Γ d_I_fetch_9 (by decide) kC_I rfl in_I 3 (by decide) w198 rfl rfl rfl ?_
    refine X_iload_n Γ d_I_fetch_12 rfl 1 rfl rfl ?_
    refine X_aald Γ d_I_fetch_13 (by decide) kC_BA 2 rfl (isUp_in h5) rfl rfl ?_
    refine X_callVNi (rest := []) Γ d_I_fetch_14 (m_B_leads l D cI cZ cB cM a hJ P G (2 + x1.toNatClampNeg) (Nat.le_add_right 2 _) (Nat.add_lt_add_left (vp_lt (isUp_in h5)) 2)) (Nat.lt_of_lt_of_le (Nat.add_lt_add_left (vp_lt (isUp_in h5)) 2) (by decide : 6 ≤ 56)) (kC_B (Nat.le_add_right 2 _) (Nat.add_lt_add_left (vp_lt (isUp_in h5)) 2)) rfl rfl w228 w230 s_B_leads w6 w231 e_B_leads ⟨by decide, by decide⟩ ⟨rfl, rfl⟩ rfl rfl (Nat.le_of_ble_eq_true rfl) rfl ?_
    refine X_if_ne (tgt := 33) Γ d_I_fetch_17 (by decide) rfl (fun h17 => ?_) (fun h17 => ?_)
    · replace E := E.trans (if_neg h17)
      refine X_iconst (v := 0) Γ d_I_fetch_33 (by decide) rfl ?_
      exact X_iretz Γ d_I_fetch_34 rfl (g_r E) (g_eq E)
    · replace E := E.trans (if_pos h17)
      refine X_aload_n Γ d_I_fetch_20 rfl 0 rfl rfl ?_
      refine X_get Γ d_I_fetch_21 (by decide) kC_I rfl in_I 3 (by decide) w198 rfl rfl rfl ?_
      refine X_iload_n Γ d_I_fetch_24 rfl 1 rfl rfl ?_
      refine X_aald Γ d_I_fetch_25 (by decide) kC_BA 2 rfl (isUp_in h5) rfl rfl ?_
      refine X_getN Γ d_I_fetch_26 (Nat.lt_of_lt_of_le (Nat.add_lt_add_left (vp_lt (isUp_in h5)) 2) (by decide : 6 ≤ 56)) (kC_B (Nat.le_add_right 2 _) (Nat.add_lt_add_left (vp_lt (isUp_in h5)) 2)) rfl in_B 6 (by decide) w160 rfl rfl rfl ?_
      refine X_iconst (v := (-1)) Γ d_I_fetch_29 (by decide) rfl ?_
      refine X_icmp_ne (tgt := 35) Γ d_I_fetch_30 (by decide) rfl (fun h30 => ?_) (fun h30 => ?_)
      · replace E := E.trans (if_neg h30)
        refine X_aload_n Γ d_I_fetch_35 rfl 0 rfl rfl ?_
        refine X_get Γ d_I_fetch_36 (by decide) kC_I rfl in_I 3 (by decide) w198 rfl rfl rfl ?_
        refine X_iload_n Γ d_I_fetch_39 rfl 1 rfl rfl ?_
        refine X_aald Γ d_I_fetch_40 (by decide) kC_BA 2 rfl (isUp_in h5) rfl rfl ?_
        refine X_astore_n Γ d_I_fetch_41 rfl (by decide) rfl rfl ?_
        refine X_aload_n Γ d_I_fetch_42 rfl 0 rfl rfl ?_
        refine X_dup Γ d_I_fetch_43 rfl rfl ?_
        refine X_getN Γ d_I_fetch_44 (Nat.lt_of_lt_of_le (Nat.add_lt_add_left (vp_lt (isUp_in h5)) 2) (by decide : 6 ≤ 56)) (kC_B (Nat.le_add_right 2 _) (Nat.add_lt_add_left (vp_lt (isUp_in h5)) 2)) rfl in_B 8 (by decide) w164 rfl rfl rfl ?_
        refine X_iconst (v := 1) Γ d_I_fetch_47 (by decide) rfl ?_
        refine X_iadd Γ d_I_fetch_48 rfl ?_
        refine X_putN (ty := .int) Γ d_I_fetch_49 (Nat.lt_of_lt_of_le (Nat.add_lt_add_left (vp_lt (isUp_in h5)) 2) (by decide : 6 ≤ 56)) (kC_B (Nat.le_add_right 2 _) (Nat.add_lt_add_left (vp_lt (isUp_in h5)) 2)) rfl in_B 8 (by decide) w164 rfl ty_B ty_B_ok nm_B rfl (by decide +kernel) rfl rfl (Nat.le_of_ble_eq_true rfl) (kp_B_8 (Nat.le_add_right 2 _) (Nat.add_lt_add_left (vp_lt (isUp_in h5)) 2)) rfl ?_
        refine X_aload_n Γ d_I_fetch_52 rfl 0 rfl rfl ?_
        refine X_iconst (v := 1) Γ d_I_fetch_53 (by decide) rfl ?_
        refine X_putN (ty := .boolean) Γ d_I_fetch_54 (Nat.lt_of_lt_of_le (Nat.add_lt_add_left (vp_lt (isUp_in h5)) 2) (by decide : 6 ≤ 56)) (kC_B (Nat.le_add_right 2 _) (Nat.add_lt_add_left (vp_lt (isUp_in h5)) 2)) rfl in_B 9 (by decide) w166 rfl ty_B ty_B_ok nm_B rfl (by decide +kernel) rfl rfl (Nat.le_of_ble_eq_true rfl) (kp_B_9 (Nat.le_add_right 2 _) (Nat.add_lt_add_left (vp_lt (isUp_in h5)) 2)) rfl ?_
        refine X_aload_n Γ d_I_fetch_57 rfl 1 rfl rfl ?_
        refine X_get Γ d_I_fetch_58 (by decide) kC_I rfl in_I 5 (by decide) w200 rfl rfl rfl ?_
        refine X_iconst (v := 0) Γ d_I_fetch_61 (by decide) rfl ?_
        refine X_aload_n Γ d_I_fetch_62 rfl 0 rfl rfl ?_
        refine X_aload_n Γ d_I_fetch_63 rfl 0 rfl rfl ?_
        refine X_getN Γ d_I_fetch_64 (Nat.lt_of_lt_of_le (Nat.add_lt_add_left (vp_lt (isUp_in h5)) 2) (by decide : 6 ≤ 56)) (kC_B (Nat.le_add_right 2 _) (Nat.add_lt_add_left (vp_lt (isUp_in h5)) 2)) rfl in_B 6 (by decide) w160 rfl rfl rfl ?_
        refine X_aload_n Γ d_I_fetch_67 rfl 0 rfl rfl ?_
        refine X_getN Γ d_I_fetch_68 (Nat.lt_of_lt_of_le (Nat.add_lt_add_left (vp_lt (isUp_in h5)) 2) (by decide : 6 ≤ 56)) (kC_B (Nat.le_add_right 2 _) (Nat.add_lt_add_left (vp_lt (isUp_in h5)) 2)) rfl in_B 8 (by decide) w164 rfl rfl rfl ?_
        refine X_aload_n Γ d_I_fetch_71 rfl 0 rfl rfl ?_
        refine X_getN Γ d_I_fetch_72 (Nat.lt_of_lt_of_le (Nat.add_lt_add_left (vp_lt (isUp_in h5)) 2) (by decide : 6 ≤ 56)) (kC_B (Nat.le_add_right 2 _) (Nat.add_lt_add_left (vp_lt (isUp_in h5)) 2)) rfl in_B 1 (by decide) w151 rfl rfl rfl ?_
        refine X_getN Γ d_I_fetch_75 (Nat.lt_of_lt_of_le (Nat.lt_of_lt_of_le (Nat.add_lt_add_right (Nat.add_lt_add_left (vp_lt (isUp_in h5)) 2) 4) (by decide : 6 + 4 ≤ 10)) (by decide : 10 ≤ 56)) (kC_L (Nat.le_trans (by decide : 6 ≤ 2 + 4) (Nat.add_le_add_right (Nat.le_add_right 2 _) 4)) (Nat.lt_of_lt_of_le (Nat.add_lt_add_right (Nat.add_lt_add_left (vp_lt (isUp_in h5)) 2) 4) (by decide : 6 + 4 ≤ 10))) rfl in_L 2 (by decide) w137 rfl rfl rfl ?_
        refine X_aload_n Γ d_I_fetch_78 rfl 0 rfl rfl ?_
        refine X_getN Γ d_I_fetch_79 (Nat.lt_of_lt_of_le (Nat.add_lt_add_left (vp_lt (isUp_in h5)) 2) (by decide : 6 ≤ 56)) (kC_B (Nat.le_add_right 2 _) (Nat.add_lt_add_left (vp_lt (isUp_in h5)) 2)) rfl in_B 1 (by decide) w151 rfl rfl rfl ?_
        refine X_callVNi (rest := [.int ((g2 (g2 G (2 + x1.toNatClampNeg) 8 ((G (2 + x1.toNatClampNeg) 8) + 1)) (2 + x1.toNatClampNeg) 9 1) (2 + x1.toNatClampNeg + 4) 2), .int ((g2 (g2 G (2 + x1.toNatClampNeg) 8 ((G (2 + x1.toNatClampNeg) 8) + 1)) (2 + x1.toNatClampNeg) 9 1) (2 + x1.toNatClampNeg) 8), .int ((g2 (g2 G (2 + x1.toNatClampNeg) 8 ((G (2 + x1.toNatClampNeg) 8) + 1)) (2 + x1.toNatClampNeg) 9 1) (2 + x1.toNatClampNeg) 6), .ref (a (2 + x1.toNatClampNeg)), .int 0, .ref (a 27)]) Γ d_I_fetch_82 (m_L_lastEpoch l D cI cZ cB cM a hJ P (g2 (g2 G (2 + x1.toNatClampNeg) 8 ((G (2 + x1.toNatClampNeg) 8) + 1)) (2 + x1.toNatClampNeg) 9 1) (2 + x1.toNatClampNeg + 4) (Nat.le_trans (by decide : 6 ≤ 2 + 4) (Nat.add_le_add_right (Nat.le_add_right 2 _) 4)) (Nat.lt_of_lt_of_le (Nat.add_lt_add_right (Nat.add_lt_add_left (vp_lt (isUp_in h5)) 2) 4) (by decide : 6 + 4 ≤ 10)) (okL_g2 (okL_g2 (hE _ (vp_lt (isUp_in h5))) (by omega)) (by omega))) (Nat.lt_of_lt_of_le (Nat.lt_of_lt_of_le (Nat.add_lt_add_right (Nat.add_lt_add_left (vp_lt (isUp_in h5)) 2) 4) (by decide : 6 + 4 ≤ 10)) (by decide : 10 ≤ 56)) (kC_L (Nat.le_trans (by decide : 6 ≤ 2 + 4) (Nat.add_le_add_right (Nat.le_add_right 2 _) 4)) (Nat.lt_of_lt_of_le (Nat.add_lt_add_right (Nat.add_lt_add_left (vp_lt (isUp_in h5)) 2) 4) (by decide : 6 + 4 ≤ 10))) rfl rfl w297 w299 s_L_lastEpoch w7 w300 e_L_lastEpoch ⟨by decide, by decide⟩ ⟨rfl, rfl⟩ rfl rfl (Nat.le_of_ble_eq_true rfl) rfl ?_
        refine X_callVNq (rest := []) Γ d_I_fetch_85 (m_H_send l D cI cZ cB cM a hJ P (g2 (g2 G (2 + x1.toNatClampNeg) 8 ((G (2 + x1.toNatClampNeg) 8) + 1)) (2 + x1.toNatClampNeg) 9 1) 0 (2 + x1.toNatClampNeg) (Nat.le_add_right 2 _) (Nat.add_lt_add_left (vp_lt (isUp_in h5)) 2) ((g2 (g2 G (2 + x1.toNatClampNeg) 8 ((G (2 + x1.toNatClampNeg) 8) + 1)) (2 + x1.toNatClampNeg) 9 1) (2 + x1.toNatClampNeg) 6) ((g2 (g2 G (2 + x1.toNatClampNeg) 8 ((G (2 + x1.toNatClampNeg) 8) + 1)) (2 + x1.toNatClampNeg) 9 1) (2 + x1.toNatClampNeg) 8) ((g2 (g2 G (2 + x1.toNatClampNeg) 8 ((G (2 + x1.toNatClampNeg) 8) + 1)) (2 + x1.toNatClampNeg) 9 1) (2 + x1.toNatClampNeg + 4) 2) ((f_L_lastEpoch (2 + x1.toNatClampNeg + 4) (g2 (g2 G (2 + x1.toNatClampNeg) 8 ((G (2 + x1.toNatClampNeg) 8) + 1)) (2 + x1.toNatClampNeg) 9 1))) hP9 (okH_g2 (okH_g2 hc (ne27 (vp_lt (isUp_in h5)))) (ne27 (vp_lt (isUp_in h5))))) (by decide) kC_H rfl rfl w308 w310 s_H_send w4 w311 e_H_send ⟨by decide, by decide⟩ ⟨rfl, rfl⟩ rfl rfl (Nat.le_of_ble_eq_true rfl) rfl ?_
        refine X_pop Γ d_I_fetch_88 (va_rf_cat _) rfl ?_
        refine jn_open E (fun G1 eG1 E => ?_)
        rw [← eG1]
        refine X_iconst (v := 1) Γ d_I_fetch_89 (by decide) rfl ?_
        exact X_iretz Γ d_I_fetch_90 rfl (g_r E) (g_eq E)
      · replace E := E.trans (if_pos h30)
        refine X_iconst (v := 0) Γ d_I_fetch_33 (by decide) rfl ?_
        exact X_iretz Γ d_I_fetch_34 rfl (g_r E) (g_eq E)
def f_I_lose (x1 : Int32) (G : Nat → Nat → Int32) (P : Nat → Nat) : Int32 × (Nat → Nat → Int32) × (Nat → Nat) := (if ((f_H_take x1 G P).1) = none then (0, ((f_H_take x1 G P).2.1), ((f_H_take x1 G P).2.2)) else (1, ((f_H_take x1 G P).2.1), ((f_H_take x1 G P).2.2)))
theorem e_I_lose : y_I_lose.cls ≠ "java/lang/invoke/MethodHandle" ∧ y_I_lose.cls ≠ "java/lang/invoke/VarHandle" ∧ (parseMethodDescriptor y_I_lose.desc).map (fun d => d.parameters.length) = some 1 := by decide +kernel
set_option maxHeartbeats 4000000 in
set_option maxRecDepth 100000 in
theorem m_I_lose (l : Launch) (D : va_G) (cI cZ cB cM : ClassId) (a : Nat → Nat) (hJ : xJ 56 a) (P : Nat → Nat) (G : Nat → Nat → Int32) (x1 : Int32) (hP9 : ∀ j : Nat, j < 9 → P j < 9) (hc : okH G) : Met l y_I_lose (Cond.code y_I_lose prog_1_method_8_code 2 (Option.some FieldType.boolean) :: wsBig) { frames := 2, cells := 0, slots := 0, locals := 44 } (xP D xcl (xty cI cZ cB cM) 56 a (kg (kC cI cB cM a P) G) [.ref (a 0), .int x1]) (xQi D xcl 56 a ((f_I_lose x1 G P).1) (kg (kC cI cB cM a ((f_I_lose x1 G P).2.2)) ((f_I_lose x1 G P).2.1))) 0 0 (xA 56 a) := by
  refine X_met (by decide) rfl (Nat.le_of_ble_eq_true rfl) hJ (fun Y s m args Γ => ?_)
  show X Y s m D xcl 56 a 2 (kg (kC cI cB cM a P) G) 0 [(0, .ref (a 0)), (1, .int x1)] []
  have E := f_I_lose.eq_1 x1 G P
  refine X_aload_n Γ d_I_lose_0 rfl 0 rfl rfl ?_
  refine X_get Γ d_I_lose_1 (by decide) kC_I rfl in_I 5 (by decide) w200 rfl rfl rfl ?_
  refine X_iload_n Γ d_I_lose_4 rfl 1 rfl rfl ?_
  refine X_callVNq (rest := []) Γ d_I_lose_5 (m_H_take l D cI cZ cB cM a hJ P G x1 hP9 hc) (by decide) kC_H rfl rfl w316 w318 s_H_take w4 w319 e_H_take ⟨by decide, by decide⟩ ⟨rfl, rfl⟩ rfl rfl (Nat.le_of_ble_eq_true rfl) rfl ?_
  refine X_cq (r := ((f_H_take x1 G P).1)) (fun h5 => ?_) (fun h5 => ?_)
  · replace E := E.trans (if_pos h5)
    refine X_ifnullN (pc' := 15) Γ d_I_lose_8 (by decide) ?_
    refine X_iconst (v := 0) Γ d_I_lose_15 (by decide) rfl ?_
    exact X_iretz Γ d_I_lose_16 rfl (gp_r E) (gp_eq E)
  · replace E := E.trans (if_neg h5)
    refine X_ifnull Γ d_I_lose_8 rfl ?_
    refine X_iconst (v := 1) Γ d_I_lose_11 (by decide) rfl ?_
    refine X_goto (pc' := 16) Γ d_I_lose_12 (by decide) ?_
    exact X_iretz Γ d_I_lose_16 rfl (gp_r E) (gp_eq E)
def f_I_flight (G : Nat → Nat → Int32) : Int32 := (G 27 1)
theorem e_I_flight : y_I_flight.cls ≠ "java/lang/invoke/MethodHandle" ∧ y_I_flight.cls ≠ "java/lang/invoke/VarHandle" ∧ (parseMethodDescriptor y_I_flight.desc).map (fun d => d.parameters.length) = some 0 := by decide +kernel
set_option maxHeartbeats 4000000 in
set_option maxRecDepth 100000 in
theorem m_I_flight (l : Launch) (D : va_G) (cI cZ cB cM : ClassId) (a : Nat → Nat) (hJ : xJ 56 a) (P : Nat → Nat) (G : Nat → Nat → Int32) : Met l y_I_flight (Cond.code y_I_flight prog_1_method_9_code 1 (Option.some FieldType.int) :: wsBig) { frames := 0, cells := 0, slots := 0, locals := 0 } (xP D xcl (xty cI cZ cB cM) 56 a (kg (kC cI cB cM a P) G) [.ref (a 0)]) (xQi D xcl 56 a (f_I_flight G) (kg (kC cI cB cM a P) G)) 0 0 (xA 56 a) := by
  refine X_met (by decide) rfl (Nat.le_of_ble_eq_true rfl) hJ (fun Y s m args Γ => ?_)
  show X Y s m D xcl 56 a 1 (kg (kC cI cB cM a P) G) 0 [(0, .ref (a 0))] []
  have E := f_I_flight.eq_1 G
  refine X_aload_n Γ d_I_flight_0 rfl 0 rfl rfl ?_
  refine X_get Γ d_I_flight_1 (by decide) kC_I rfl in_I 5 (by decide) w200 rfl rfl rfl ?_
  refine X_getN Γ d_I_flight_4 (by decide) kC_H rfl in_H 1 (by decide) w114 rfl rfl rfl ?_
  exact X_ireti Γ d_I_flight_7 E.symm rfl
def f_I_message (x1 : Int32) (x2 : Int32) (G : Nat → Nat → Int32) (P : Nat → Nat) : Int32 := (if ((f_H_has x1 G)) = 0 then (-1) else ((f_G_word (29 + P x1.toNatClampNeg) x2 G)))
theorem e_I_message : y_I_message.cls ≠ "java/lang/invoke/MethodHandle" ∧ y_I_message.cls ≠ "java/lang/invoke/VarHandle" ∧ (parseMethodDescriptor y_I_message.desc).map (fun d => d.parameters.length) = some 2 := by decide +kernel
set_option maxHeartbeats 4000000 in
set_option maxRecDepth 100000 in
theorem m_I_message (l : Launch) (D : va_G) (cI cZ cB cM : ClassId) (a : Nat → Nat) (hJ : xJ 56 a) (P : Nat → Nat) (G : Nat → Nat → Int32) (x1 : Int32) (x2 : Int32) (hP9 : ∀ j : Nat, j < 9 → P j < 9) (hc : okH G) : Met l y_I_message (Cond.code y_I_message prog_1_method_10_code 3 (Option.some FieldType.int) :: wsBig) { frames := 1, cells := 0, slots := 0, locals := 21 } (xP D xcl (xty cI cZ cB cM) 56 a (kg (kC cI cB cM a P) G) [.ref (a 0), .int x1, .int x2]) (xQi D xcl 56 a (f_I_message x1 x2 G P) (kg (kC cI cB cM a P) G)) 0 0 (xA 56 a) := by
  refine X_met (by decide) rfl (Nat.le_of_ble_eq_true rfl) hJ (fun Y s m args Γ => ?_)
  show X Y s m D xcl 56 a 3 (kg (kC cI cB cM a P) G) 0 [(0, .ref (a 0)), (1, .int x1), (2, .int x2)] []
  have E := f_I_message.eq_1 x1 x2 G P
  refine X_aload_n Γ d_I_message_0 rfl 0 rfl rfl ?_
  refine X_get Γ d_I_message_1 (by decide) kC_I rfl in_I 5 (by decide) w200 rfl rfl rfl ?_
  refine X_iload_n Γ d_I_message_4 rfl 1 rfl rfl ?_
  refine X_callVNi (rest := []) Γ d_I_message_5 (m_H_has l D cI cZ cB cM a hJ P G x1) (by decide) kC_H rfl rfl w388 w322 s_H_has w4 w323 e_H_has ⟨by decide, by decide⟩ ⟨rfl, rfl⟩ rfl rfl (Nat.le_of_ble_eq_true rfl) rfl ?_
  refine X_if_eq (tgt := 27) Γ d_I_message_8 (by decide) rfl (fun h8 => ?_) (fun h8 => ?_)
  · replace E := E.trans (if_pos h8)
    refine X_iconst (v := (-1)) Γ d_I_message_27 (by decide) rfl ?_
    exact X_ireti Γ d_I_message_28 E.symm rfl
  · replace E := E.trans (if_neg h8)
    refine X_aload_n Γ d_I_message_11 rfl 0 rfl rfl ?_
    refine X_get Γ d_I_message_12 (by decide) kC_I rfl in_I 5 (by decide) w200 rfl rfl rfl ?_
    refine X_getN Γ d_I_message_15 (by decide) kC_H rfl in_H 0 (by decide) w112 rfl rfl rfl ?_
    refine X_iload_n Γ d_I_message_18 rfl 1 rfl rfl ?_
    refine X_aald Γ d_I_message_19 (by decide) kC_MA 3 rfl (hhas_in hc h8) rfl rfl ?_
    refine X_iload_n Γ d_I_message_20 rfl 2 rfl rfl ?_
    refine X_callVNi (rest := []) Γ d_I_message_21 (m_G_word l D cI cZ cB cM a hJ P G (29 + P x1.toNatClampNeg) (Nat.le_add_right 29 _) (Nat.add_lt_add_left (hP9 _ (vp_lt (hhas_in hc h8))) 29) x2) (Nat.lt_of_lt_of_le (Nat.add_lt_add_left (hP9 _ (vp_lt (hhas_in hc h8))) 29) (by decide : 38 ≤ 56)) (kC_G (Nat.le_add_right 29 _) (Nat.add_lt_add_left (hP9 _ (vp_lt (hhas_in hc h8))) 29)) rfl rfl w389 w391 s_G_word w5 w392 e_G_word ⟨by decide, by decide⟩ ⟨rfl, rfl⟩ rfl rfl (Nat.le_of_ble_eq_true rfl) rfl ?_
    refine X_goto (pc' := 28) Γ d_I_message_24 (by decide) ?_
    exact X_ireti Γ d_I_message_28 E.symm rfl
end
section
def f_I_review (x1 : Int32) (G : Nat → Nat → Int32) : Int32 × (Nat → Nat → Int32) := (if ((f_I_isLeading x1 G)) = 0 then ((-1), G) else (if (G (2 + x1.toNatClampNeg) 5) = (G 26 0) then ((((f_B_raiseHw (2 + x1.toNatClampNeg) (g2 (g2 G 26 2 ((f_B_replicasInSync (2 + x1.toNatClampNeg) (G 0 6) (G 0 0) G))) (2 + x1.toNatClampNeg) 11 ((g2 G 26 2 ((f_B_replicasInSync (2 + x1.toNatClampNeg) (G 0 6) (G 0 0) G))) 26 2)))) 26 2), ((f_B_raiseHw (2 + x1.toNatClampNeg) (g2 (g2 G 26 2 ((f_B_replicasInSync (2 + x1.toNatClampNeg) (G 0 6) (G 0 0) G))) (2 + x1.toNatClampNeg) 11 ((g2 G 26 2 ((f_B_replicasInSync (2 + x1.toNatClampNeg) (G 0 6) (G 0 0) G))) 26 2))))) else ((-1), G)))
theorem e_I_review : y_I_review.cls ≠ "java/lang/invoke/MethodHandle" ∧ y_I_review.cls ≠ "java/lang/invoke/VarHandle" ∧ (parseMethodDescriptor y_I_review.desc).map (fun d => d.parameters.length) = some 1 := by decide +kernel
set_option maxHeartbeats 4000000 in
set_option maxRecDepth 100000 in
theorem m_I_review (l : Launch) (D : va_G) (cI cZ cB cM : ClassId) (a : Nat → Nat) (hJ : xJ 56 a) (P : Nat → Nat) (G : Nat → Nat → Int32) (x1 : Int32) : Met l y_I_review (Cond.code y_I_review prog_1_method_11_code 3 (Option.some FieldType.int) :: wsBig) { frames := 2, cells := 0, slots := 0, locals := 46 } (xP D xcl (xty cI cZ cB cM) 56 a (kg (kC cI cB cM a P) G) [.ref (a 0), .int x1]) (xQi D xcl 56 a ((f_I_review x1 G).1) (kg (kC cI cB cM a P) ((f_I_review x1 G).2))) 0 0 (xA 56 a) := by
  refine X_met (by decide) rfl (Nat.le_of_ble_eq_true rfl) hJ (fun Y s m args Γ => ?_)
  show X Y s m D xcl 56 a 3 (kg (kC cI cB cM a P) G) 0 [(0, .ref (a 0)), (1, .int x1)] []
  have E := f_I_review.eq_1 x1 G
  refine X_aload_n Γ d_I_review_0 rfl 0 rfl rfl ?_
  refine X_iload_n Γ d_I_review_1 rfl 1 rfl rfl ?_
  refine X_callVi (rest := []) Γ d_I_review_2 (m_I_isLeading l D cI cZ cB cM a hJ P G x1) (by decide) kC_I rfl rfl w221 w223 s_I_isLeading w1 w224 e_I_isLeading ⟨by decide, by decide⟩ ⟨rfl, rfl⟩ rfl rfl (Nat.le_of_ble_eq_true rfl) rfl ?_
  refine X_if_eq (tgt := 27) Γ d_I_review_5 (by decide) rfl (fun h5 => ?_) (fun h5 => ?_)
  · replace E := E.trans (if_pos h5)
    refine X_iconst (v := (-1)) Γ d_I_review_27 (by decide) rfl ?_
    exact X_ireti Γ d_I_review_28 (g_r E) (g_eq E)
  · replace E := E.trans (if_neg h5)
    refine X_aload_n Γ d_I_review_8 rfl 0 rfl rfl ?_
    refine X_get Γ d_I_review_9 (by decide) kC_I rfl in_I 3 (by decide) w198 rfl rfl rfl ?_
    refine X_iload_n Γ d_I_review_12 rfl 1 rfl rfl ?_
    refine X_aald Γ d_I_review_13 (by decide) kC_BA 2 rfl (isLd_in h5) rfl rfl ?_
    refine X_getN Γ d_I_review_14 (Nat.lt_of_lt_of_le (Nat.add_lt_add_left (vp_lt (isLd_in h5)) 2) (by decide : 6 ≤ 56)) (kC_B (Nat.le_add_right 2 _) (Nat.add_lt_add_left (vp_lt (isLd_in h5)) 2)) rfl in_B 5 (by decide) w157 rfl rfl rfl ?_
    refine X_aload_n Γ d_I_review_17 rfl 0 rfl rfl ?_
    refine X_get Γ d_I_review_18 (by decide) kC_I rfl in_I 4 (by decide) w199 rfl rfl rfl ?_
    refine X_getN Γ d_I_review_21 (by decide) kC_T rfl in_T 0 (by decide) w36 rfl rfl rfl ?_
    refine X_icmp_eq (tgt := 29) Γ d_I_review_24 (by decide) rfl (fun h24 => ?_) (fun h24 => ?_)
    · replace E := E.trans (if_pos h24)
      refine X_aload_n Γ d_I_review_29 rfl 0 rfl rfl ?_
      refine X_get Γ d_I_review_30 (by decide) kC_I rfl in_I 3 (by decide) w198 rfl rfl rfl ?_
      refine X_iload_n Γ d_I_review_33 rfl 1 rfl rfl ?_
      refine X_aald Γ d_I_review_34 (by decide) kC_BA 2 rfl (isLd_in h5) rfl rfl ?_
      refine X_astore_n Γ d_I_review_35 rfl (by decide) rfl rfl ?_
      refine X_aload_n Γ d_I_review_36 rfl 1 rfl rfl ?_
      refine X_get Γ d_I_review_37 (by decide) kC_I rfl in_I 4 (by decide) w199 rfl rfl rfl ?_
      refine X_aload_n Γ d_I_review_40 rfl 0 rfl rfl ?_
      refine X_aload_n Γ d_I_review_41 rfl 1 rfl rfl ?_
      refine X_get Γ d_I_review_42 (by decide) kC_I rfl in_I 6 (by decide) w201 rfl rfl rfl ?_
      refine X_aload_n Γ d_I_review_45 rfl 1 rfl rfl ?_
      refine X_get Γ d_I_review_46 (by decide) kC_I rfl in_I 0 (by decide) w195 rfl rfl rfl ?_
      refine X_callVNi (rest := [.ref (a 26)]) Γ d_I_review_49 (m_B_replicasInSync l D cI cZ cB cM a hJ P G (2 + x1.toNatClampNeg) (Nat.le_add_right 2 _) (Nat.add_lt_add_left (vp_lt (isLd_in h5)) 2) (G 0 6) (G 0 0)) (Nat.lt_of_lt_of_le (Nat.add_lt_add_left (vp_lt (isLd_in h5)) 2) (by decide : 6 ≤ 56)) (kC_B (Nat.le_add_right 2 _) (Nat.add_lt_add_left (vp_lt (isLd_in h5)) 2)) rfl rfl w397 w399 s_B_replicasInSync w6 w400 e_B_replicasInSync ⟨by decide, by decide⟩ ⟨rfl, rfl⟩ rfl rfl (Nat.le_of_ble_eq_true rfl) rfl ?_
      refine X_putN (ty := .int) Γ d_I_review_52 (by decide) kC_T rfl in_T 2 (by decide) w42 rfl ty_T ty_T_ok nm_T rfl (by decide +kernel) rfl rfl (Nat.le_of_ble_eq_true rfl) kp_T_2 rfl ?_
      refine X_aload_n Γ d_I_review_55 rfl 0 rfl rfl ?_
      refine X_aload_n Γ d_I_review_56 rfl 1 rfl rfl ?_
      refine X_get Γ d_I_review_57 (by decide) kC_I rfl in_I 4 (by decide) w199 rfl rfl rfl ?_
      refine X_getN Γ d_I_review_60 (by decide) kC_T rfl in_T 2 (by decide) w42 rfl rfl rfl ?_
      refine X_putN (ty := .int) Γ d_I_review_63 (Nat.lt_of_lt_of_le (Nat.add_lt_add_left (vp_lt (isLd_in h5)) 2) (by decide : 6 ≤ 56)) (kC_B (Nat.le_add_right 2 _) (Nat.add_lt_add_left (vp_lt (isLd_in h5)) 2)) rfl in_B 11 (by decide) w169 rfl ty_B ty_B_ok nm_B rfl (by decide +kernel) rfl rfl (Nat.le_of_ble_eq_true rfl) (kp_B_11 (Nat.le_add_right 2 _) (Nat.add_lt_add_left (vp_lt (isLd_in h5)) 2)) rfl ?_
      refine X_aload_n Γ d_I_review_66 rfl 0 rfl rfl ?_
      refine X_callVNv (rest := []) Γ d_I_review_67 (m_B_raiseHw l D cI cZ cB cM a hJ P (g2 (g2 G 26 2 ((f_B_replicasInSync (2 + x1.toNatClampNeg) (G 0 6) (G 0 0) G))) (2 + x1.toNatClampNeg) 11 ((g2 G 26 2 ((f_B_replicasInSync (2 + x1.toNatClampNeg) (G 0 6) (G 0 0) G))) 26 2)) (2 + x1.toNatClampNeg) (Nat.le_add_right 2 _) (Nat.add_lt_add_left (vp_lt (isLd_in h5)) 2)) (Nat.lt_of_lt_of_le (Nat.add_lt_add_left (vp_lt (isLd_in h5)) 2) (by decide : 6 ≤ 56)) (kC_B (Nat.le_add_right 2 _) (Nat.add_lt_add_left (vp_lt (isLd_in h5)) 2)) rfl rfl w251 w253 s_B_raiseHw w6 w254 e_B_raiseHw ⟨by decide, by decide⟩ ⟨rfl, rfl⟩ rfl rfl (Nat.le_of_ble_eq_true rfl) rfl ?_
      refine X_aload_n Γ d_I_review_70 rfl 1 rfl rfl ?_
      refine X_get Γ d_I_review_71 (by decide) kC_I rfl in_I 4 (by decide) w199 rfl rfl rfl ?_
      refine X_getN Γ d_I_review_74 (by decide) kC_T rfl in_T 2 (by decide) w42 rfl rfl rfl ?_
      exact X_ireti Γ d_I_review_77 (g_r E) (g_eq E)
    · replace E := E.trans (if_neg h24)
      refine X_iconst (v := (-1)) Γ d_I_review_27 (by decide) rfl ?_
      exact X_ireti Γ d_I_review_28 (g_r E) (g_eq E)
def f_I_learn (x1 : Int32) (G : Nat → Nat → Int32) : Int32 × (Nat → Nat → Int32) := (if ((f_I_isUp x1 G)) = 0 then (0, G) else (if (G (2 + x1.toNatClampNeg) 5) = (G 26 0) then (0, G) else (1, ((f_B_adopt (2 + x1.toNatClampNeg) (G 0 6) G)))))
theorem e_I_learn : y_I_learn.cls ≠ "java/lang/invoke/MethodHandle" ∧ y_I_learn.cls ≠ "java/lang/invoke/VarHandle" ∧ (parseMethodDescriptor y_I_learn.desc).map (fun d => d.parameters.length) = some 1 := by decide +kernel
set_option maxHeartbeats 4000000 in
set_option maxRecDepth 100000 in
theorem m_I_learn (l : Launch) (D : va_G) (cI cZ cB cM : ClassId) (a : Nat → Nat) (hJ : xJ 56 a) (P : Nat → Nat) (G : Nat → Nat → Int32) (x1 : Int32) : Met l y_I_learn (Cond.code y_I_learn prog_1_method_12_code 2 (Option.some FieldType.boolean) :: wsBig) { frames := 2, cells := 0, slots := 0, locals := 45 } (xP D xcl (xty cI cZ cB cM) 56 a (kg (kC cI cB cM a P) G) [.ref (a 0), .int x1]) (xQi D xcl 56 a ((f_I_learn x1 G).1) (kg (kC cI cB cM a P) ((f_I_learn x1 G).2))) 0 0 (xA 56 a) := by
  refine X_met (by decide) rfl (Nat.le_of_ble_eq_true rfl) hJ (fun Y s m args Γ => ?_)
  show X Y s m D xcl 56 a 2 (kg (kC cI cB cM a P) G) 0 [(0, .ref (a 0)), (1, .int x1)] []
  have E := f_I_learn.eq_1 x1 G
  refine X_aload_n Γ d_I_learn_0 rfl 0 rfl rfl ?_
  refine X_iload_n Γ d_I_learn_1 rfl 1 rfl rfl ?_
  refine X_callVi (rest := []) Γ d_I_learn_2 (m_I_isUp l D cI cZ cB cM a hJ P G x1) (by decide) kC_I rfl rfl w293 w295 s_I_isUp w1 w296 e_I_isUp ⟨by decide, by decide⟩ ⟨rfl, rfl⟩ rfl rfl (Nat.le_of_ble_eq_true rfl) rfl ?_
  refine X_if_eq (tgt := 27) Γ d_I_learn_5 (by decide) rfl (fun h5 => ?_) (fun h5 => ?_)
  · replace E := E.trans (if_pos h5)
    refine X_iconst (v := 0) Γ d_I_learn_27 (by decide) rfl ?_
    exact X_iretz Γ d_I_learn_28 rfl (g_r E) (g_eq E)
  · replace E := E.trans (if_neg h5)
    refine X_aload_n Γ d_I_learn_8 rfl 0 rfl rfl ?_
    refine X_get Γ d_I_learn_9 (by decide) kC_I rfl in_I 3 (by decide) w198 rfl rfl rfl ?_
    refine X_iload_n Γ d_I_learn_12 rfl 1 rfl rfl ?_
    refine X_aald Γ d_I_learn_13 (by decide) kC_BA 2 rfl (isUp_in h5) rfl rfl ?_
    refine X_getN Γ d_I_learn_14 (Nat.lt_of_lt_of_le (Nat.add_lt_add_left (vp_lt (isUp_in h5)) 2) (by decide : 6 ≤ 56)) (kC_B (Nat.le_add_right 2 _) (Nat.add_lt_add_left (vp_lt (isUp_in h5)) 2)) rfl in_B 5 (by decide) w157 rfl rfl rfl ?_
    refine X_aload_n Γ d_I_learn_17 rfl 0 rfl rfl ?_
    refine X_get Γ d_I_learn_18 (by decide) kC_I rfl in_I 4 (by decide) w199 rfl rfl rfl ?_
    refine X_getN Γ d_I_learn_21 (by decide) kC_T rfl in_T 0 (by decide) w36 rfl rfl rfl ?_
    refine X_icmp_ne (tgt := 29) Γ d_I_learn_24 (by decide) rfl (fun h24 => ?_) (fun h24 => ?_)
    · replace E := E.trans (if_neg h24)
      refine X_aload_n Γ d_I_learn_29 rfl 0 rfl rfl ?_
      refine X_get Γ d_I_learn_30 (by decide) kC_I rfl in_I 3 (by decide) w198 rfl rfl rfl ?_
      refine X_iload_n Γ d_I_learn_33 rfl 1 rfl rfl ?_
      refine X_aald Γ d_I_learn_34 (by decide) kC_BA 2 rfl (isUp_in h5) rfl rfl ?_
      refine X_aload_n Γ d_I_learn_35 rfl 0 rfl rfl ?_
      refine X_get Γ d_I_learn_36 (by decide) kC_I rfl in_I 4 (by decide) w199 rfl rfl rfl ?_
      refine X_aload_n Γ d_I_learn_39 rfl 0 rfl rfl ?_
      refine X_get Γ d_I_learn_40 (by decide) kC_I rfl in_I 6 (by decide) w201 rfl rfl rfl ?_
      refine X_callVNv (rest := []) Γ d_I_learn_43 (m_B_adopt l D cI cZ cB cM a hJ P G (2 + x1.toNatClampNeg) (Nat.le_add_right 2 _) (Nat.add_lt_add_left (vp_lt (isUp_in h5)) 2) (G 0 6)) (Nat.lt_of_lt_of_le (Nat.add_lt_add_left (vp_lt (isUp_in h5)) 2) (by decide : 6 ≤ 56)) (kC_B (Nat.le_add_right 2 _) (Nat.add_lt_add_left (vp_lt (isUp_in h5)) 2)) rfl rfl w409 w411 s_B_adopt w6 w412 e_B_adopt ⟨by decide, by decide⟩ ⟨rfl, rfl⟩ rfl rfl (Nat.le_of_ble_eq_true rfl) rfl ?_
      refine X_iconst (v := 1) Γ d_I_learn_46 (by decide) rfl ?_
      exact X_iretz Γ d_I_learn_47 rfl (g_r E) (g_eq E)
    · replace E := E.trans (if_pos h24)
      refine X_iconst (v := 0) Γ d_I_learn_27 (by decide) rfl ?_
      exact X_iretz Γ d_I_learn_28 rfl (g_r E) (g_eq E)
def f_I_crash (x1 : Int32) (G : Nat → Nat → Int32) : Int32 × (Nat → Nat → Int32) := (if ((f_I_isUp x1 G)) = 0 then (0, G) else (1, ((f_B_goDown (2 + x1.toNatClampNeg) G))))
theorem e_I_crash : y_I_crash.cls ≠ "java/lang/invoke/MethodHandle" ∧ y_I_crash.cls ≠ "java/lang/invoke/VarHandle" ∧ (parseMethodDescriptor y_I_crash.desc).map (fun d => d.parameters.length) = some 1 := by decide +kernel
set_option maxHeartbeats 4000000 in
set_option maxRecDepth 100000 in
theorem m_I_crash (l : Launch) (D : va_G) (cI cZ cB cM : ClassId) (a : Nat → Nat) (hJ : xJ 56 a) (P : Nat → Nat) (G : Nat → Nat → Int32) (x1 : Int32) : Met l y_I_crash (Cond.code y_I_crash prog_1_method_13_code 2 (Option.some FieldType.boolean) :: wsBig) { frames := 2, cells := 0, slots := 0, locals := 41 } (xP D xcl (xty cI cZ cB cM) 56 a (kg (kC cI cB cM a P) G) [.ref (a 0), .int x1]) (xQi D xcl 56 a ((f_I_crash x1 G).1) (kg (kC cI cB cM a P) ((f_I_crash x1 G).2))) 0 0 (xA 56 a) := by
  refine X_met (by decide) rfl (Nat.le_of_ble_eq_true rfl) hJ (fun Y s m args Γ => ?_)
  show X Y s m D xcl 56 a 2 (kg (kC cI cB cM a P) G) 0 [(0, .ref (a 0)), (1, .int x1)] []
  have E := f_I_crash.eq_1 x1 G
  refine X_aload_n Γ d_I_crash_0 rfl 0 rfl rfl ?_
  refine X_iload_n Γ d_I_crash_1 rfl 1 rfl rfl ?_
  refine X_callVi (rest := []) Γ d_I_crash_2 (m_I_isUp l D cI cZ cB cM a hJ P G x1) (by decide) kC_I rfl rfl w293 w295 s_I_isUp w1 w296 e_I_isUp ⟨by decide, by decide⟩ ⟨rfl, rfl⟩ rfl rfl (Nat.le_of_ble_eq_true rfl) rfl ?_
  refine X_if_ne (tgt := 10) Γ d_I_crash_5 (by decide) rfl (fun h5 => ?_) (fun h5 => ?_)
  · replace E := E.trans (if_neg h5)
    refine X_aload_n Γ d_I_crash_10 rfl 0 rfl rfl ?_
    refine X_get Γ d_I_crash_11 (by decide) kC_I rfl in_I 3 (by decide) w198 rfl rfl rfl ?_
    refine X_iload_n Γ d_I_crash_14 rfl 1 rfl rfl ?_
    refine X_aald Γ d_I_crash_15 (by decide) kC_BA 2 rfl (isUp_in h5) rfl rfl ?_
    refine X_callVNv (rest := []) Γ d_I_crash_16 (m_B_goDown l D cI cZ cB cM a hJ P G (2 + x1.toNatClampNeg) (Nat.le_add_right 2 _) (Nat.add_lt_add_left (vp_lt (isUp_in h5)) 2)) (Nat.lt_of_lt_of_le (Nat.add_lt_add_left (vp_lt (isUp_in h5)) 2) (by decide : 6 ≤ 56)) (kC_B (Nat.le_add_right 2 _) (Nat.add_lt_add_left (vp_lt (isUp_in h5)) 2)) rfl rfl w417 w419 s_B_goDown w6 w420 e_B_goDown ⟨by decide, by decide⟩ ⟨rfl, rfl⟩ rfl rfl (Nat.le_of_ble_eq_true rfl) rfl ?_
    refine X_iconst (v := 1) Γ d_I_crash_19 (by decide) rfl ?_
    exact X_iretz Γ d_I_crash_20 rfl (g_r E) (g_eq E)
  · replace E := E.trans (if_pos h5)
    refine X_iconst (v := 0) Γ d_I_crash_8 (by decide) rfl ?_
    exact X_iretz Γ d_I_crash_9 rfl (g_r E) (g_eq E)
def f_I_restart (x1 : Int32) (G : Nat → Nat → Int32) : Int32 × (Nat → Nat → Int32) := (if ((f_I_isBroker x1)) = 0 then (0, G) else (if (G (2 + x1.toNatClampNeg) 4) = 0 then (1, (g2 G (2 + x1.toNatClampNeg) 4 1)) else (0, G)))
theorem e_I_restart : y_I_restart.cls ≠ "java/lang/invoke/MethodHandle" ∧ y_I_restart.cls ≠ "java/lang/invoke/VarHandle" ∧ (parseMethodDescriptor y_I_restart.desc).map (fun d => d.parameters.length) = some 1 := by decide +kernel
set_option maxHeartbeats 4000000 in
set_option maxRecDepth 100000 in
theorem m_I_restart (l : Launch) (D : va_G) (cI cZ cB cM : ClassId) (a : Nat → Nat) (hJ : xJ 56 a) (P : Nat → Nat) (G : Nat → Nat → Int32) (x1 : Int32) : Met l y_I_restart (Cond.code y_I_restart prog_1_method_14_code 2 (Option.some FieldType.boolean) :: wsBig) { frames := 1, cells := 0, slots := 0, locals := 20 } (xP D xcl (xty cI cZ cB cM) 56 a (kg (kC cI cB cM a P) G) [.ref (a 0), .int x1]) (xQi D xcl 56 a ((f_I_restart x1 G).1) (kg (kC cI cB cM a P) ((f_I_restart x1 G).2))) 0 0 (xA 56 a) := by
  refine X_met (by decide) rfl (Nat.le_of_ble_eq_true rfl) hJ (fun Y s m args Γ => ?_)
  show X Y s m D xcl 56 a 2 (kg (kC cI cB cM a P) G) 0 [(0, .ref (a 0)), (1, .int x1)] []
  have E := f_I_restart.eq_1 x1 G
  refine X_iload_n Γ d_I_restart_0 rfl 1 rfl rfl ?_
  refine X_callSi (rest := []) Γ d_I_restart_1 (m_I_isBroker l D _ _ _ _ hJ _ _ x1) w225 w226 w1 w227 e_I_isBroker ⟨by decide, by decide⟩ ⟨rfl, rfl⟩ rfl rfl (Nat.le_of_ble_eq_true rfl) rfl ?_
  refine X_if_eq (tgt := 19) Γ d_I_restart_4 (by decide) rfl (fun h4 => ?_) (fun h4 => ?_)
  · replace E := E.trans (if_pos h4)
    refine X_iconst (v := 0) Γ d_I_restart_19 (by decide) rfl ?_
    exact X_iretz Γ d_I_restart_20 rfl (g_r E) (g_eq E)
  · replace E := E.trans (if_neg h4)
    refine X_aload_n Γ d_I_restart_7 rfl 0 rfl rfl ?_
    refine X_get Γ d_I_restart_8 (by decide) kC_I rfl in_I 3 (by decide) w198 rfl rfl rfl ?_
    refine X_iload_n Γ d_I_restart_11 rfl 1 rfl rfl ?_
    refine X_aald Γ d_I_restart_12 (by decide) kC_BA 2 rfl (isB_in h4) rfl rfl ?_
    refine X_getN Γ d_I_restart_13 (Nat.lt_of_lt_of_le (Nat.add_lt_add_left (vp_lt (isB_in h4)) 2) (by decide : 6 ≤ 56)) (kC_B (Nat.le_add_right 2 _) (Nat.add_lt_add_left (vp_lt (isB_in h4)) 2)) rfl in_B 4 (by decide) w155 rfl rfl rfl ?_
    refine X_if_eq (tgt := 21) Γ d_I_restart_16 (by decide) rfl (fun h16 => ?_) (fun h16 => ?_)
    · replace E := E.trans (if_pos h16)
      refine X_aload_n Γ d_I_restart_21 rfl 0 rfl rfl ?_
      refine X_get Γ d_I_restart_22 (by decide) kC_I rfl in_I 3 (by decide) w198 rfl rfl rfl ?_
      refine X_iload_n Γ d_I_restart_25 rfl 1 rfl rfl ?_
      refine X_aald Γ d_I_restart_26 (by decide) kC_BA 2 rfl (isB_in h4) rfl rfl ?_
      refine X_iconst (v := 1) Γ d_I_restart_27 (by decide) rfl ?_
      refine X_putN (ty := .boolean) Γ d_I_restart_28 (Nat.lt_of_lt_of_le (Nat.add_lt_add_left (vp_lt (isB_in h4)) 2) (by decide : 6 ≤ 56)) (kC_B (Nat.le_add_right 2 _) (Nat.add_lt_add_left (vp_lt (isB_in h4)) 2)) rfl in_B 4 (by decide) w155 rfl ty_B ty_B_ok nm_B rfl (by decide +kernel) rfl rfl (Nat.le_of_ble_eq_true rfl) (kp_B_4 (Nat.le_add_right 2 _) (Nat.add_lt_add_left (vp_lt (isB_in h4)) 2)) rfl ?_
      refine X_iconst (v := 1) Γ d_I_restart_31 (by decide) rfl ?_
      exact X_iretz Γ d_I_restart_32 rfl (g_r E) (g_eq E)
    · replace E := E.trans (if_neg h16)
      refine X_iconst (v := 0) Γ d_I_restart_19 (by decide) rfl ?_
      exact X_iretz Γ d_I_restart_20 rfl (g_r E) (g_eq E)
end
section
def f_I_govern_4 (x1 : Int32) (G : Nat → Nat → Int32) : Nat → Int32 → Int32 → Int32 × (Nat → Nat → Int32)
  | 0, v2_4, v3_4 => (0, G)
  | k4 + 1, v2_4, v3_4 => (if 4 ≤ v3_4 then (((f_T_reactTo v2_4 G).1), ((f_T_reactTo v2_4 G).2)) else (jn (fun (v2_35 : Int32) => (f_I_govern_4 x1 G k4 v2_35 (v3_4 + 1))) (fun (j35 : Int32 → Int32 × (Nat → Nat → Int32)) => (if (G (2 + v3_4.toNatClampNeg) 4) = 0 then (j35 v2_4) else (if ((f_I_contains x1 v3_4)) = 0 then (j35 (v2_4 ||| (1 <<< (v3_4 &&& 31)))) else (j35 v2_4))))))
def f_I_govern (x1 : Int32) (G : Nat → Nat → Int32) : Int32 × (Nat → Nat → Int32) := (f_I_govern_4 x1 G 5 0 0)
theorem e_I_govern : y_I_govern.cls ≠ "java/lang/invoke/MethodHandle" ∧ y_I_govern.cls ≠ "java/lang/invoke/VarHandle" ∧ (parseMethodDescriptor y_I_govern.desc).map (fun d => d.parameters.length) = some 1 := by decide +kernel
set_option maxHeartbeats 4000000 in
set_option maxRecDepth 100000 in
theorem m_I_govern (l : Launch) (D : va_G) (cI cZ cB cM : ClassId) (a : Nat → Nat) (hJ : xJ 56 a) (P : Nat → Nat) (G : Nat → Nat → Int32) (x1 : Int32) : Met l y_I_govern (Cond.code y_I_govern prog_1_method_15_code 4 (Option.some FieldType.boolean) :: wsBig) { frames := 3, cells := 0, slots := 0, locals := 65 } (xP D xcl (xty cI cZ cB cM) 56 a (kg (kC cI cB cM a P) G) [.ref (a 0), .int x1]) (xQi D xcl 56 a ((f_I_govern x1 G).1) (kg (kC cI cB cM a P) ((f_I_govern x1 G).2))) 0 0 (xA 56 a) := by
  refine X_met (by decide) rfl (Nat.le_of_ble_eq_true rfl) hJ (fun Y s m args Γ => ?_)
  show X Y s m D xcl 56 a 4 (kg (kC cI cB cM a P) G) 0 [(0, .ref (a 0)), (1, .int x1)] []
  have E := f_I_govern.eq_1 x1 G
  refine X_iconst (v := 0) Γ d_I_govern_0 (by decide) rfl ?_
  refine X_istore_n Γ d_I_govern_1 rfl (by decide) rfl rfl ?_
  refine X_iconst (v := 0) Γ d_I_govern_2 (by decide) rfl ?_
  refine X_istore_n Γ d_I_govern_3 rfl (by decide) rfl rfl ?_
  have J4 : ∀ (k4 : Nat) (v2_4 : Int32) (v3_4 : Int32), (0 < k4 ∧ k4 ≤ 5 ∧ v3_4 = nI (5 - k4)) → f_I_govern x1 G = f_I_govern_4 x1 G k4 v2_4 v3_4 → X Y s m D xcl 56 a 4 (kg (kC cI cB cM a P) G) 4 [(0, .ref (a 0)), (1, .int x1), (2, .int v2_4), (3, .int v3_4)] [] := by
    intro k4
    induction k4 with
    | zero => exact fun v2_4 v3_4 hI4 _ => absurd hI4 (fun h => Nat.lt_irrefl 0 h.1)
    | succ k4 ih4 =>
      intro v2_4 v3_4 hI4 E
      rw [f_I_govern_4] at E
      refine X_iload_n Γ d_I_govern_4 rfl 3 rfl rfl ?_
      refine X_iconst (v := 4) Γ d_I_govern_5 (by decide) rfl ?_
      refine X_icmp_ge (tgt := 41) Γ d_I_govern_6 (by decide) rfl (fun h6 => ?_) (fun h6 => ?_)
      · replace E := E.trans (if_pos h6)
        refine X_aload_n Γ d_I_govern_41 rfl 0 rfl rfl ?_
        refine X_get Γ d_I_govern_42 (by decide) kC_I rfl in_I 4 (by decide) w199 rfl rfl rfl ?_
        refine X_iload_n Γ d_I_govern_45 rfl 2 rfl rfl ?_
        refine X_callVNi (rest := []) Γ d_I_govern_46 (m_T_reactTo l D cI cZ cB cM a hJ P G v2_4) (by decide) kC_T rfl rfl w430 w432 s_T_reactTo w3 w433 e_T_reactTo ⟨by decide, by decide⟩ ⟨rfl, rfl⟩ rfl rfl (Nat.le_of_ble_eq_true rfl) rfl ?_
        exact X_iretz Γ d_I_govern_49 (zb_reactTo _ _) (g_r E) (g_eq E)
      · replace E := E.trans (if_neg h6)
        refine X_aload_n Γ d_I_govern_9 rfl 0 rfl rfl ?_
        refine X_get Γ d_I_govern_10 (by decide) kC_I rfl in_I 3 (by decide) w198 rfl rfl rfl ?_
        refine X_iload_n Γ d_I_govern_13 rfl 3 rfl rfl ?_
        refine X_aald Γ d_I_govern_14 (by decide) kC_BA 2 rfl (lc_in (by decide) (by decide) hI4.2.1 hI4.2.2 h6) rfl rfl ?_
        refine X_getN Γ d_I_govern_15 (Nat.lt_of_lt_of_le (Nat.add_lt_add_left (vp_lt (lc_in (by decide) (by decide) hI4.2.1 hI4.2.2 h6)) 2) (by decide : 6 ≤ 56)) (kC_B (Nat.le_add_right 2 _) (Nat.add_lt_add_left (vp_lt (lc_in (by decide) (by decide) hI4.2.1 hI4.2.2 h6)) 2)) rfl in_B 4 (by decide) w155 rfl rfl rfl ?_
        refine jn_open E (fun j35 ej35 E => ?_)
        have J35 : ∀ (v2_35 : Int32), (True) → f_I_govern x1 G = j35 v2_35 → X Y s m D xcl 56 a 4 (kg (kC cI cB cM a P) G) 35 [(0, .ref (a 0)), (1, .int x1), (2, .int v2_35), (3, .int v3_4)] [] := by
          intro v2_35 hI35 E
          rw [ej35] at E
          refine X_iinc (v := (v3_4 + 1)) Γ d_I_govern_35 3 rfl rfl (by decide) rfl rfl ?_
          refine X_goto (pc' := 4) Γ d_I_govern_38 (by decide) ?_
          refine X_loc [1, 2, 3, 0] rfl ?_
          exact ih4 v2_35 (v3_4 + 1) (lc_step (by decide) (by decide) hI4.1 hI4.2.1 hI4.2.2 h6) E
        refine X_if_eq (tgt := 35) Γ d_I_govern_18 (by decide) rfl (fun h18 => ?_) (fun h18 => ?_)
        · replace E := E.trans (if_pos h18)
          refine X_loc [0, 1, 2, 3] rfl ?_
          exact J35 v2_4 trivial E
        · replace E := E.trans (if_neg h18)
          refine X_iload_n Γ d_I_govern_21 rfl 1 rfl rfl ?_
          refine X_iload_n Γ d_I_govern_22 rfl 3 rfl rfl ?_
          refine X_callSi (rest := []) Γ d_I_govern_23 (m_I_contains l D _ _ _ _ hJ _ _ x1 v3_4) w429 w256 w1 w257 e_I_contains ⟨by decide, by decide⟩ ⟨rfl, rfl⟩ rfl rfl (Nat.le_of_ble_eq_true rfl) rfl ?_
          refine X_if_ne (tgt := 35) Γ d_I_govern_26 (by decide) rfl (fun h26 => ?_) (fun h26 => ?_)
          · replace E := E.trans (if_neg h26)
            refine X_loc [0, 1, 2, 3] rfl ?_
            exact J35 v2_4 trivial E
          · replace E := E.trans (if_pos h26)
            refine X_iload_n Γ d_I_govern_29 rfl 2 rfl rfl ?_
            refine X_iconst (v := 1) Γ d_I_govern_30 (by decide) rfl ?_
            refine X_iload_n Γ d_I_govern_31 rfl 3 rfl rfl ?_
            refine X_ishl Γ d_I_govern_32 rfl ?_
            refine X_ior Γ d_I_govern_33 rfl ?_
            refine X_istore_n Γ d_I_govern_34 rfl (by decide) rfl rfl ?_
            refine X_loc [1, 2, 0, 3] rfl ?_
            exact J35 (v2_4 ||| (1 <<< (v3_4 &&& 31))) trivial E
  refine X_loc [2, 3, 1, 0] rfl ?_
  exact J4 5 0 0 (⟨by decide, by decide, by decide⟩) E
def f_I_tick (x1 : Int32) (G : Nat → Nat → Int32) : Int32 × (Nat → Nat → Int32) := (if x1 < 0 then (0, G) else (if x1 ≤ 50 then (1, (g2 G 0 6 ((G 0 6) + x1))) else (0, G)))
theorem e_I_tick : y_I_tick.cls ≠ "java/lang/invoke/MethodHandle" ∧ y_I_tick.cls ≠ "java/lang/invoke/VarHandle" ∧ (parseMethodDescriptor y_I_tick.desc).map (fun d => d.parameters.length) = some 1 := by decide +kernel
set_option maxHeartbeats 4000000 in
set_option maxRecDepth 100000 in
theorem m_I_tick (l : Launch) (D : va_G) (cI cZ cB cM : ClassId) (a : Nat → Nat) (hJ : xJ 56 a) (P : Nat → Nat) (G : Nat → Nat → Int32) (x1 : Int32) : Met l y_I_tick (Cond.code y_I_tick prog_1_method_16_code 2 (Option.some FieldType.boolean) :: wsBig) { frames := 0, cells := 0, slots := 0, locals := 0 } (xP D xcl (xty cI cZ cB cM) 56 a (kg (kC cI cB cM a P) G) [.ref (a 0), .int x1]) (xQi D xcl 56 a ((f_I_tick x1 G).1) (kg (kC cI cB cM a P) ((f_I_tick x1 G).2))) 0 0 (xA 56 a) := by
  refine X_met (by decide) rfl (Nat.le_of_ble_eq_true rfl) hJ (fun Y s m args Γ => ?_)
  show X Y s m D xcl 56 a 2 (kg (kC cI cB cM a P) G) 0 [(0, .ref (a 0)), (1, .int x1)] []
  have E := f_I_tick.eq_1 x1 G
  refine X_iload_n Γ d_I_tick_0 rfl 1 rfl rfl ?_
  refine X_if_lt (tgt := 10) Γ d_I_tick_1 (by decide) rfl (fun h1 => ?_) (fun h1 => ?_)
  · replace E := E.trans (if_pos h1)
    refine X_iconst (v := 0) Γ d_I_tick_10 (by decide) rfl ?_
    exact X_iretz Γ d_I_tick_11 rfl (g_r E) (g_eq E)
  · replace E := E.trans (if_neg h1)
    refine X_iload_n Γ d_I_tick_4 rfl 1 rfl rfl ?_
    refine X_bipush (v := 50) Γ d_I_tick_5 (by decide) rfl ?_
    refine X_icmp_le (tgt := 12) Γ d_I_tick_7 (by decide) rfl (fun h7 => ?_) (fun h7 => ?_)
    · replace E := E.trans (if_pos h7)
      refine X_aload_n Γ d_I_tick_12 rfl 0 rfl rfl ?_
      refine X_dup Γ d_I_tick_13 rfl rfl ?_
      refine X_get Γ d_I_tick_14 (by decide) kC_I rfl in_I 6 (by decide) w201 rfl rfl rfl ?_
      refine X_iload_n Γ d_I_tick_17 rfl 1 rfl rfl ?_
      refine X_iadd Γ d_I_tick_18 rfl ?_
      refine X_put (ty := .int) Γ d_I_tick_19 (by decide) kC_I rfl in_I 6 (by decide) w201 rfl ty_I ty_I_ok nm_I rfl (by decide +kernel) rfl rfl (Nat.le_of_ble_eq_true rfl) kp_I_6 rfl ?_
      refine X_iconst (v := 1) Γ d_I_tick_22 (by decide) rfl ?_
      exact X_iretz Γ d_I_tick_23 rfl (g_r E) (g_eq E)
    · replace E := E.trans (if_neg h7)
      refine X_iconst (v := 0) Γ d_I_tick_10 (by decide) rfl ?_
      exact X_iretz Γ d_I_tick_11 rfl (g_r E) (g_eq E)
def f_I_controller (x1 : Int32) (G : Nat → Nat → Int32) : Int32 := (if x1 = 0 then (G 26 0) else (if x1 = 1 then (G 26 1) else (if x1 = 2 then (G 26 2) else (-1))))
theorem e_I_controller : y_I_controller.cls ≠ "java/lang/invoke/MethodHandle" ∧ y_I_controller.cls ≠ "java/lang/invoke/VarHandle" ∧ (parseMethodDescriptor y_I_controller.desc).map (fun d => d.parameters.length) = some 1 := by decide +kernel
set_option maxHeartbeats 4000000 in
set_option maxRecDepth 100000 in
theorem m_I_controller (l : Launch) (D : va_G) (cI cZ cB cM : ClassId) (a : Nat → Nat) (hJ : xJ 56 a) (P : Nat → Nat) (G : Nat → Nat → Int32) (x1 : Int32) : Met l y_I_controller (Cond.code y_I_controller prog_1_method_17_code 2 (Option.some FieldType.int) :: wsBig) { frames := 0, cells := 0, slots := 0, locals := 0 } (xP D xcl (xty cI cZ cB cM) 56 a (kg (kC cI cB cM a P) G) [.ref (a 0), .int x1]) (xQi D xcl 56 a (f_I_controller x1 G) (kg (kC cI cB cM a P) G)) 0 0 (xA 56 a) := by
  refine X_met (by decide) rfl (Nat.le_of_ble_eq_true rfl) hJ (fun Y s m args Γ => ?_)
  show X Y s m D xcl 56 a 2 (kg (kC cI cB cM a P) G) 0 [(0, .ref (a 0)), (1, .int x1)] []
  have E := f_I_controller.eq_1 x1 G
  refine X_iload_n Γ d_I_controller_0 rfl 1 rfl rfl ?_
  by_cases h1_0 : x1 = 0
  · replace E := E.trans (if_pos h1_0)
    refine X_tableIn (pc' := 28) (off := 27) Γ d_I_controller_1 h1_0 (by decide) (by decide) (by decide) (by decide) ?_
    refine X_aload_n Γ d_I_controller_28 rfl 0 rfl rfl ?_
    refine X_get Γ d_I_controller_29 (by decide) kC_I rfl in_I 4 (by decide) w199 rfl rfl rfl ?_
    refine X_getN Γ d_I_controller_32 (by decide) kC_T rfl in_T 0 (by decide) w36 rfl rfl rfl ?_
    exact X_ireti Γ d_I_controller_35 E.symm rfl
  replace E := E.trans (if_neg h1_0)
  by_cases h1_1 : x1 = 1
  · replace E := E.trans (if_pos h1_1)
    refine X_tableIn (pc' := 36) (off := 35) Γ d_I_controller_1 h1_1 (by decide) (by decide) (by decide) (by decide) ?_
    refine X_aload_n Γ d_I_controller_36 rfl 0 rfl rfl ?_
    refine X_get Γ d_I_controller_37 (by decide) kC_I rfl in_I 4 (by decide) w199 rfl rfl rfl ?_
    refine X_getN Γ d_I_controller_40 (by decide) kC_T rfl in_T 1 (by decide) w39 rfl rfl rfl ?_
    exact X_ireti Γ d_I_controller_43 E.symm rfl
  replace E := E.trans (if_neg h1_1)
  by_cases h1_2 : x1 = 2
  · replace E := E.trans (if_pos h1_2)
    refine X_tableIn (pc' := 44) (off := 43) Γ d_I_controller_1 h1_2 (by decide) (by decide) (by decide) (by decide) ?_
    refine X_aload_n Γ d_I_controller_44 rfl 0 rfl rfl ?_
    refine X_get Γ d_I_controller_45 (by decide) kC_I rfl in_I 4 (by decide) w199 rfl rfl rfl ?_
    refine X_getN Γ d_I_controller_48 (by decide) kC_T rfl in_T 2 (by decide) w42 rfl rfl rfl ?_
    exact X_ireti Γ d_I_controller_51 E.symm rfl
  replace E := E.trans (if_neg h1_2)
  refine X_tableOut (pc' := 52) Γ d_I_controller_1 (tb_0_2 h1_0 h1_1 h1_2) (by decide) ?_
  refine X_iconst (v := (-1)) Γ d_I_controller_52 (by decide) rfl ?_
  exact X_ireti Γ d_I_controller_53 E.symm rfl
def f_I_broker (x1 : Int32) (x2 : Int32) (G : Nat → Nat → Int32) : Int32 := (if ((f_I_isBroker x1)) = 0 then (-1) else ((f_B_fact (2 + x1.toNatClampNeg) x2 G)))
theorem e_I_broker : y_I_broker.cls ≠ "java/lang/invoke/MethodHandle" ∧ y_I_broker.cls ≠ "java/lang/invoke/VarHandle" ∧ (parseMethodDescriptor y_I_broker.desc).map (fun d => d.parameters.length) = some 2 := by decide +kernel
set_option maxHeartbeats 4000000 in
set_option maxRecDepth 100000 in
theorem m_I_broker (l : Launch) (D : va_G) (cI cZ cB cM : ClassId) (a : Nat → Nat) (hJ : xJ 56 a) (P : Nat → Nat) (G : Nat → Nat → Int32) (x1 : Int32) (x2 : Int32) : Met l y_I_broker (Cond.code y_I_broker prog_1_method_18_code 3 (Option.some FieldType.int) :: wsBig) { frames := 2, cells := 0, slots := 0, locals := 41 } (xP D xcl (xty cI cZ cB cM) 56 a (kg (kC cI cB cM a P) G) [.ref (a 0), .int x1, .int x2]) (xQi D xcl 56 a (f_I_broker x1 x2 G) (kg (kC cI cB cM a P) G)) 0 0 (xA 56 a) := by
  refine X_met (by decide) rfl (Nat.le_of_ble_eq_true rfl) hJ (fun Y s m args Γ => ?_)
  show X Y s m D xcl 56 a 3 (kg (kC cI cB cM a P) G) 0 [(0, .ref (a 0)), (1, .int x1), (2, .int x2)] []
  have E := f_I_broker.eq_1 x1 x2 G
  refine X_iload_n Γ d_I_broker_0 rfl 1 rfl rfl ?_
  refine X_callSi (rest := []) Γ d_I_broker_1 (m_I_isBroker l D _ _ _ _ hJ _ _ x1) w225 w226 w1 w227 e_I_isBroker ⟨by decide, by decide⟩ ⟨rfl, rfl⟩ rfl rfl (Nat.le_of_ble_eq_true rfl) rfl ?_
  refine X_if_eq (tgt := 20) Γ d_I_broker_4 (by decide) rfl (fun h4 => ?_) (fun h4 => ?_)
  · replace E := E.trans (if_pos h4)
    refine X_iconst (v := (-1)) Γ d_I_broker_20 (by decide) rfl ?_
    exact X_ireti Γ d_I_broker_21 E.symm rfl
  · replace E := E.trans (if_neg h4)
    refine X_aload_n Γ d_I_broker_7 rfl 0 rfl rfl ?_
    refine X_get Γ d_I_broker_8 (by decide) kC_I rfl in_I 3 (by decide) w198 rfl rfl rfl ?_
    refine X_iload_n Γ d_I_broker_11 rfl 1 rfl rfl ?_
    refine X_aald Γ d_I_broker_12 (by decide) kC_BA 2 rfl (isB_in h4) rfl rfl ?_
    refine X_iload_n Γ d_I_broker_13 rfl 2 rfl rfl ?_
    refine X_callVNi (rest := []) Γ d_I_broker_14 (m_B_fact l D cI cZ cB cM a hJ P G (2 + x1.toNatClampNeg) (Nat.le_add_right 2 _) (Nat.add_lt_add_left (vp_lt (isB_in h4)) 2) x2) (Nat.lt_of_lt_of_le (Nat.add_lt_add_left (vp_lt (isB_in h4)) 2) (by decide : 6 ≤ 56)) (kC_B (Nat.le_add_right 2 _) (Nat.add_lt_add_left (vp_lt (isB_in h4)) 2)) rfl rfl w454 w456 s_B_fact w6 w457 e_B_fact ⟨by decide, by decide⟩ ⟨rfl, rfl⟩ rfl rfl (Nat.le_of_ble_eq_true rfl) rfl ?_
    refine X_goto (pc' := 21) Γ d_I_broker_17 (by decide) ?_
    exact X_ireti Γ d_I_broker_21 E.symm rfl
def f_I_epochAt (x1 : Int32) (x2 : Int32) (G : Nat → Nat → Int32) : Int32 := (if ((f_I_isBroker x1)) = 0 then 0 else ((f_L_stampOf (2 + x1.toNatClampNeg + 4) x2 G)))
theorem e_I_epochAt : y_I_epochAt.cls ≠ "java/lang/invoke/MethodHandle" ∧ y_I_epochAt.cls ≠ "java/lang/invoke/VarHandle" ∧ (parseMethodDescriptor y_I_epochAt.desc).map (fun d => d.parameters.length) = some 2 := by decide +kernel
set_option maxHeartbeats 4000000 in
set_option maxRecDepth 100000 in
theorem m_I_epochAt (l : Launch) (D : va_G) (cI cZ cB cM : ClassId) (a : Nat → Nat) (hJ : xJ 56 a) (P : Nat → Nat) (G : Nat → Nat → Int32) (x1 : Int32) (x2 : Int32) (hE : ∀ j : Nat, j < 4 → okL G (2 + j + 4)) : Met l y_I_epochAt (Cond.code y_I_epochAt prog_1_method_19_code 3 (Option.some FieldType.int) :: wsBig) { frames := 2, cells := 0, slots := 0, locals := 42 } (xP D xcl (xty cI cZ cB cM) 56 a (kg (kC cI cB cM a P) G) [.ref (a 0), .int x1, .int x2]) (xQi D xcl 56 a (f_I_epochAt x1 x2 G) (kg (kC cI cB cM a P) G)) 0 0 (xA 56 a) := by
  refine X_met (by decide) rfl (Nat.le_of_ble_eq_true rfl) hJ (fun Y s m args Γ => ?_)
  show X Y s m D xcl 56 a 3 (kg (kC cI cB cM a P) G) 0 [(0, .ref (a 0)), (1, .int x1), (2, .int x2)] []
  have E := f_I_epochAt.eq_1 x1 x2 G
  refine X_iload_n Γ d_I_epochAt_0 rfl 1 rfl rfl ?_
  refine X_callSi (rest := []) Γ d_I_epochAt_1 (m_I_isBroker l D _ _ _ _ hJ _ _ x1) w225 w226 w1 w227 e_I_isBroker ⟨by decide, by decide⟩ ⟨rfl, rfl⟩ rfl rfl (Nat.le_of_ble_eq_true rfl) rfl ?_
  refine X_if_eq (tgt := 23) Γ d_I_epochAt_4 (by decide) rfl (fun h4 => ?_) (fun h4 => ?_)
  · replace E := E.trans (if_pos h4)
    refine X_iconst (v := 0) Γ d_I_epochAt_23 (by decide) rfl ?_
    exact X_ireti Γ d_I_epochAt_24 E.symm rfl
  · replace E := E.trans (if_neg h4)
    refine X_aload_n Γ d_I_epochAt_7 rfl 0 rfl rfl ?_
    refine X_get Γ d_I_epochAt_8 (by decide) kC_I rfl in_I 3 (by decide) w198 rfl rfl rfl ?_
    refine X_iload_n Γ d_I_epochAt_11 rfl 1 rfl rfl ?_
    refine X_aald Γ d_I_epochAt_12 (by decide) kC_BA 2 rfl (isB_in h4) rfl rfl ?_
    refine X_getN Γ d_I_epochAt_13 (Nat.lt_of_lt_of_le (Nat.add_lt_add_left (vp_lt (isB_in h4)) 2) (by decide : 6 ≤ 56)) (kC_B (Nat.le_add_right 2 _) (Nat.add_lt_add_left (vp_lt (isB_in h4)) 2)) rfl in_B 1 (by decide) w151 rfl rfl rfl ?_
    refine X_iload_n Γ d_I_epochAt_16 rfl 2 rfl rfl ?_
    refine X_callVNi (rest := []) Γ d_I_epochAt_17 (m_L_stampOf l D cI cZ cB cM a hJ P G (2 + x1.toNatClampNeg + 4) (Nat.le_trans (by decide : 6 ≤ 2 + 4) (Nat.add_le_add_right (Nat.le_add_right 2 _) 4)) (Nat.lt_of_lt_of_le (Nat.add_lt_add_right (Nat.add_lt_add_left (vp_lt (isB_in h4)) 2) 4) (by decide : 6 + 4 ≤ 10)) x2 (hE _ (vp_lt (isB_in h4)))) (Nat.lt_of_lt_of_le (Nat.lt_of_lt_of_le (Nat.add_lt_add_right (Nat.add_lt_add_left (vp_lt (isB_in h4)) 2) 4) (by decide : 6 + 4 ≤ 10)) (by decide : 10 ≤ 56)) (kC_L (Nat.le_trans (by decide : 6 ≤ 2 + 4) (Nat.add_le_add_right (Nat.le_add_right 2 _) 4)) (Nat.lt_of_lt_of_le (Nat.add_lt_add_right (Nat.add_lt_add_left (vp_lt (isB_in h4)) 2) 4) (by decide : 6 + 4 ≤ 10))) rfl rfl w462 w278 s_L_stampOf w7 w279 e_L_stampOf ⟨by decide, by decide⟩ ⟨rfl, rfl⟩ rfl rfl (Nat.le_of_ble_eq_true rfl) rfl ?_
    refine X_goto (pc' := 24) Γ d_I_epochAt_20 (by decide) ?_
    exact X_ireti Γ d_I_epochAt_24 E.symm rfl
def f_I_valueAt (x1 : Int32) (x2 : Int32) (G : Nat → Nat → Int32) : Int32 := (if ((f_I_isBroker x1)) = 0 then 0 else ((f_L_valueOf (2 + x1.toNatClampNeg + 4) x2 G)))
theorem e_I_valueAt : y_I_valueAt.cls ≠ "java/lang/invoke/MethodHandle" ∧ y_I_valueAt.cls ≠ "java/lang/invoke/VarHandle" ∧ (parseMethodDescriptor y_I_valueAt.desc).map (fun d => d.parameters.length) = some 2 := by decide +kernel
set_option maxHeartbeats 4000000 in
set_option maxRecDepth 100000 in
theorem m_I_valueAt (l : Launch) (D : va_G) (cI cZ cB cM : ClassId) (a : Nat → Nat) (hJ : xJ 56 a) (P : Nat → Nat) (G : Nat → Nat → Int32) (x1 : Int32) (x2 : Int32) (hE : ∀ j : Nat, j < 4 → okL G (2 + j + 4)) : Met l y_I_valueAt (Cond.code y_I_valueAt prog_1_method_20_code 3 (Option.some FieldType.int) :: wsBig) { frames := 2, cells := 0, slots := 0, locals := 42 } (xP D xcl (xty cI cZ cB cM) 56 a (kg (kC cI cB cM a P) G) [.ref (a 0), .int x1, .int x2]) (xQi D xcl 56 a (f_I_valueAt x1 x2 G) (kg (kC cI cB cM a P) G)) 0 0 (xA 56 a) := by
  refine X_met (by decide) rfl (Nat.le_of_ble_eq_true rfl) hJ (fun Y s m args Γ => ?_)
  show X Y s m D xcl 56 a 3 (kg (kC cI cB cM a P) G) 0 [(0, .ref (a 0)), (1, .int x1), (2, .int x2)] []
  have E := f_I_valueAt.eq_1 x1 x2 G
  refine X_iload_n Γ d_I_valueAt_0 rfl 1 rfl rfl ?_
  refine X_callSi (rest := []) Γ d_I_valueAt_1 (m_I_isBroker l D _ _ _ _ hJ _ _ x1) w225 w226 w1 w227 e_I_isBroker ⟨by decide, by decide⟩ ⟨rfl, rfl⟩ rfl rfl (Nat.le_of_ble_eq_true rfl) rfl ?_
  refine X_if_eq (tgt := 23) Γ d_I_valueAt_4 (by decide) rfl (fun h4 => ?_) (fun h4 => ?_)
  · replace E := E.trans (if_pos h4)
    refine X_iconst (v := 0) Γ d_I_valueAt_23 (by decide) rfl ?_
    exact X_ireti Γ d_I_valueAt_24 E.symm rfl
  · replace E := E.trans (if_neg h4)
    refine X_aload_n Γ d_I_valueAt_7 rfl 0 rfl rfl ?_
    refine X_get Γ d_I_valueAt_8 (by decide) kC_I rfl in_I 3 (by decide) w198 rfl rfl rfl ?_
    refine X_iload_n Γ d_I_valueAt_11 rfl 1 rfl rfl ?_
    refine X_aald Γ d_I_valueAt_12 (by decide) kC_BA 2 rfl (isB_in h4) rfl rfl ?_
    refine X_getN Γ d_I_valueAt_13 (Nat.lt_of_lt_of_le (Nat.add_lt_add_left (vp_lt (isB_in h4)) 2) (by decide : 6 ≤ 56)) (kC_B (Nat.le_add_right 2 _) (Nat.add_lt_add_left (vp_lt (isB_in h4)) 2)) rfl in_B 1 (by decide) w151 rfl rfl rfl ?_
    refine X_iload_n Γ d_I_valueAt_16 rfl 2 rfl rfl ?_
    refine X_callVNi (rest := []) Γ d_I_valueAt_17 (m_L_valueOf l D cI cZ cB cM a hJ P G (2 + x1.toNatClampNeg + 4) (Nat.le_trans (by decide : 6 ≤ 2 + 4) (Nat.add_le_add_right (Nat.le_add_right 2 _) 4)) (Nat.lt_of_lt_of_le (Nat.add_lt_add_right (Nat.add_lt_add_left (vp_lt (isB_in h4)) 2) 4) (by decide : 6 + 4 ≤ 10)) x2 (hE _ (vp_lt (isB_in h4)))) (Nat.lt_of_lt_of_le (Nat.lt_of_lt_of_le (Nat.add_lt_add_right (Nat.add_lt_add_left (vp_lt (isB_in h4)) 2) 4) (by decide : 6 + 4 ≤ 10)) (by decide : 10 ≤ 56)) (kC_L (Nat.le_trans (by decide : 6 ≤ 2 + 4) (Nat.add_le_add_right (Nat.le_add_right 2 _) 4)) (Nat.lt_of_lt_of_le (Nat.add_lt_add_right (Nat.add_lt_add_left (vp_lt (isB_in h4)) 2) 4) (by decide : 6 + 4 ≤ 10))) rfl rfl w285 w287 s_L_valueOf w7 w288 e_L_valueOf ⟨by decide, by decide⟩ ⟨rfl, rfl⟩ rfl rfl (Nat.le_of_ble_eq_true rfl) rfl ?_
    refine X_goto (pc' := 24) Γ d_I_valueAt_20 (by decide) ?_
    exact X_ireti Γ d_I_valueAt_24 E.symm rfl
end
section
def f_I_sendCut (n1_ : Nat) (n2_ : Nat) (G : Nat → Nat → Int32) (P : Nat → Nat) : (Nat → Nat → Int32) := ((f_H_send 1 n1_ (G n2_ 3) (G n2_ 6) ((f_L_countUpTo (n1_ + 4) (G n2_ 8) G)) ((f_L_epochOf (n1_ + 4) (((f_L_countUpTo (n1_ + 4) (G n2_ 8) G)) - 1) G)) G P).2)
theorem e_I_sendCut : y_I_sendCut.cls ≠ "java/lang/invoke/MethodHandle" ∧ y_I_sendCut.cls ≠ "java/lang/invoke/VarHandle" ∧ (parseMethodDescriptor y_I_sendCut.desc).map (fun d => d.parameters.length) = some 2 := by decide +kernel
set_option maxHeartbeats 4000000 in
set_option maxRecDepth 100000 in
theorem m_I_sendCut (l : Launch) (D : va_G) (cI cZ cB cM : ClassId) (a : Nat → Nat) (hJ : xJ 56 a) (P : Nat → Nat) (G : Nat → Nat → Int32) (n1_ : Nat) (n1_1 : 2 ≤ n1_) (n1_2 : n1_ < 6) (n2_ : Nat) (n2_1 : 29 ≤ n2_) (n2_2 : n2_ < 38) (hE : okL G (n1_ + 4)) (hP9 : ∀ j : Nat, j < 9 → P j < 9) (hc : okH G) : Met l y_I_sendCut (Cond.code y_I_sendCut prog_1_method_29_code 4 (Option.none : Option FieldType) :: wsBig) { frames := 4, cells := 0, slots := 0, locals := 85 } (xP D xcl (xty cI cZ cB cM) 56 a (kg (kC cI cB cM a P) G) [.ref (a 0), .ref (a n1_), .ref (a n2_)]) (xQv D xcl 56 a (kg (kC cI cB cM a P) (f_I_sendCut n1_ n2_ G P))) 0 0 (xA 56 a) := by
  refine X_met (by decide) rfl (Nat.le_of_ble_eq_true rfl) hJ (fun Y s m args Γ => ?_)
  show X Y s m D xcl 56 a 4 (kg (kC cI cB cM a P) G) 0 [(0, .ref (a 0)), (1, .ref (a n1_)), (2, .ref (a n2_))] []
  have E := f_I_sendCut.eq_1 n1_ n2_ G P
  refine X_aload_n Γ d_I_sendCut_0 rfl 1 rfl rfl ?_
  refine X_getN Γ d_I_sendCut_1 (Nat.lt_of_lt_of_le n1_2 (by decide : 6 ≤ 56)) (kC_B n1_1 n1_2) rfl in_B 1 (by decide) w151 rfl rfl rfl ?_
  refine X_aload_n Γ d_I_sendCut_4 rfl 2 rfl rfl ?_
  refine X_getN Γ d_I_sendCut_5 (Nat.lt_of_lt_of_le n2_2 (by decide : 38 ≤ 56)) (kC_G n2_1 n2_2) rfl in_G 8 (by decide) w90 rfl rfl rfl ?_
  refine X_callVNi (rest := []) Γ d_I_sendCut_8 (m_L_countUpTo l D cI cZ cB cM a hJ P G (n1_ + 4) (Nat.le_trans (by decide : 6 ≤ 2 + 4) (Nat.add_le_add_right n1_1 4)) (Nat.lt_of_lt_of_le (Nat.add_lt_add_right n1_2 4) (by decide : 6 + 4 ≤ 10)) (G n2_ 8) hE) (Nat.lt_of_lt_of_le (Nat.lt_of_lt_of_le (Nat.add_lt_add_right n1_2 4) (by decide : 6 + 4 ≤ 10)) (by decide : 10 ≤ 56)) (kC_L (Nat.le_trans (by decide : 6 ≤ 2 + 4) (Nat.add_le_add_right n1_1 4)) (Nat.lt_of_lt_of_le (Nat.add_lt_add_right n1_2 4) (by decide : 6 + 4 ≤ 10))) rfl rfl w351 w353 s_L_countUpTo w7 w354 e_L_countUpTo ⟨by decide, by decide⟩ ⟨rfl, rfl⟩ rfl rfl (Nat.le_of_ble_eq_true rfl) rfl ?_
  refine X_istore_n Γ d_I_sendCut_11 rfl (by decide) rfl rfl ?_
  refine X_aload_n Γ d_I_sendCut_12 rfl 1 rfl rfl ?_
  refine X_get Γ d_I_sendCut_13 (by decide) kC_I rfl in_I 5 (by decide) w200 rfl rfl rfl ?_
  refine X_iconst (v := 1) Γ d_I_sendCut_16 (by decide) rfl ?_
  refine X_aload_n Γ d_I_sendCut_17 rfl 2 rfl rfl ?_
  refine X_aload_n Γ d_I_sendCut_18 rfl 3 rfl rfl ?_
  refine X_getN Γ d_I_sendCut_19 (Nat.lt_of_lt_of_le n2_2 (by decide : 38 ≤ 56)) (kC_G n2_1 n2_2) rfl in_G 3 (by decide) w71 rfl rfl rfl ?_
  refine X_aload_n Γ d_I_sendCut_22 rfl 3 rfl rfl ?_
  refine X_getN Γ d_I_sendCut_23 (Nat.lt_of_lt_of_le n2_2 (by decide : 38 ≤ 56)) (kC_G n2_1 n2_2) rfl in_G 6 (by decide) w82 rfl rfl rfl ?_
  refine X_iload_n Γ d_I_sendCut_26 rfl 0 rfl rfl ?_
  refine X_aload_n Γ d_I_sendCut_27 rfl 2 rfl rfl ?_
  refine X_getN Γ d_I_sendCut_28 (Nat.lt_of_lt_of_le n1_2 (by decide : 6 ≤ 56)) (kC_B n1_1 n1_2) rfl in_B 1 (by decide) w151 rfl rfl rfl ?_
  refine X_iload_n Γ d_I_sendCut_31 rfl 0 rfl rfl ?_
  refine X_iconst (v := 1) Γ d_I_sendCut_32 (by decide) rfl ?_
  refine X_isub Γ d_I_sendCut_33 rfl ?_
  refine X_callVNi (rest := [.int ((f_L_countUpTo (n1_ + 4) (G n2_ 8) G)), .int (G n2_ 6), .int (G n2_ 3), .ref (a n1_), .int 1, .ref (a 27)]) Γ d_I_sendCut_34 (m_L_epochOf l D cI cZ cB cM a hJ P G (n1_ + 4) (Nat.le_trans (by decide : 6 ≤ 2 + 4) (Nat.add_le_add_right n1_1 4)) (Nat.lt_of_lt_of_le (Nat.add_lt_add_right n1_2 4) (by decide : 6 + 4 ≤ 10)) (((f_L_countUpTo (n1_ + 4) (G n2_ 8) G)) - 1) hE) (Nat.lt_of_lt_of_le (Nat.lt_of_lt_of_le (Nat.add_lt_add_right n1_2 4) (by decide : 6 + 4 ≤ 10)) (by decide : 10 ≤ 56)) (kC_L (Nat.le_trans (by decide : 6 ≤ 2 + 4) (Nat.add_le_add_right n1_1 4)) (Nat.lt_of_lt_of_le (Nat.add_lt_add_right n1_2 4) (by decide : 6 + 4 ≤ 10))) rfl rfl w355 w303 s_L_epochOf w7 w304 e_L_epochOf ⟨by decide, by decide⟩ ⟨rfl, rfl⟩ rfl rfl (Nat.le_of_ble_eq_true rfl) rfl ?_
  refine X_callVNq (rest := []) Γ d_I_sendCut_37 (m_H_send l D cI cZ cB cM a hJ P G 1 n1_ n1_1 n1_2 (G n2_ 3) (G n2_ 6) ((f_L_countUpTo (n1_ + 4) (G n2_ 8) G)) ((f_L_epochOf (n1_ + 4) (((f_L_countUpTo (n1_ + 4) (G n2_ 8) G)) - 1) G)) hP9 hc) (by decide) kC_H rfl rfl w308 w310 s_H_send w4 w311 e_H_send ⟨by decide, by decide⟩ ⟨rfl, rfl⟩ rfl rfl (Nat.le_of_ble_eq_true rfl) rfl ?_
  refine X_pop Γ d_I_sendCut_40 (va_rf_cat _) rfl ?_
  exact X_vret Γ d_I_sendCut_41 (gv_eq E)
end
section
def f_I_sendBatch (n1_ : Nat) (n2_ : Nat) (G : Nat → Nat → Int32) (P : Nat → Nat) : (Nat → Nat → Int32) := (if ((f_H_send 2 n1_ (G n2_ 3) (G n2_ 6) (if ((G (n1_ + 4) 2) - (G n2_ 7)) < (G 0 1) then ((G (n1_ + 4) 2) - (G n2_ 7)) else (G 0 1)) (G n1_ 7) G P).1) = none then ((f_H_send 2 n1_ (G n2_ 3) (G n2_ 6) (if ((G (n1_ + 4) 2) - (G n2_ 7)) < (G 0 1) then ((G (n1_ + 4) 2) - (G n2_ 7)) else (G 0 1)) (G n1_ 7) G P).2) else ((f_G_copyRecords (((f_H_send 2 n1_ (G n2_ 3) (G n2_ 6) (if ((G (n1_ + 4) 2) - (G n2_ 7)) < (G 0 1) then ((G (n1_ + 4) 2) - (G n2_ 7)) else (G 0 1)) (G n1_ 7) G P).1).getD 0) (n1_ + 4) (((f_H_send 2 n1_ (G n2_ 3) (G n2_ 6) (if ((G (n1_ + 4) 2) - (G n2_ 7)) < (G 0 1) then ((G (n1_ + 4) 2) - (G n2_ 7)) else (G 0 1)) (G n1_ 7) G P).2) n2_ 7) ((f_H_send 2 n1_ (G n2_ 3) (G n2_ 6) (if ((G (n1_ + 4) 2) - (G n2_ 7)) < (G 0 1) then ((G (n1_ + 4) 2) - (G n2_ 7)) else (G 0 1)) (G n1_ 7) G P).2))))
theorem e_I_sendBatch : y_I_sendBatch.cls ≠ "java/lang/invoke/MethodHandle" ∧ y_I_sendBatch.cls ≠ "java/lang/invoke/VarHandle" ∧ (parseMethodDescriptor y_I_sendBatch.desc).map (fun d => d.parameters.length) = some 2 := by decide +kernel
set_option maxHeartbeats 4000000 in
set_option maxRecDepth 100000 in
theorem m_I_sendBatch (l : Launch) (D : va_G) (cI cZ cB cM : ClassId) (a : Nat → Nat) (hJ : xJ 56 a) (P : Nat → Nat) (G : Nat → Nat → Int32) (n1_ : Nat) (n1_1 : 2 ≤ n1_) (n1_2 : n1_ < 6) (n2_ : Nat) (n2_1 : 29 ≤ n2_) (n2_2 : n2_ < 38) (hE : okL G (n1_ + 4)) (hP9 : ∀ j : Nat, j < 9 → P j < 9) (hc : okH G) : Met l y_I_sendBatch (Cond.code y_I_sendBatch prog_1_method_30_code 5 (Option.none : Option FieldType) :: wsBig) { frames := 3, cells := 0, slots := 0, locals := 65 } (xP D xcl (xty cI cZ cB cM) 56 a (kg (kC cI cB cM a P) G) [.ref (a 0), .ref (a n1_), .ref (a n2_)]) (xQv D xcl 56 a (kg (kC cI cB cM a P) (f_I_sendBatch n1_ n2_ G P))) 0 0 (xA 56 a) := by
  refine X_met (by decide) rfl (Nat.le_of_ble_eq_true rfl) hJ (fun Y s m args Γ => ?_)
  show X Y s m D xcl 56 a 5 (kg (kC cI cB cM a P) G) 0 [(0, .ref (a 0)), (1, .ref (a n1_)), (2, .ref (a n2_))] []
  have E := f_I_sendBatch.eq_1 n1_ n2_ G P
  refine X_aload_n Γ d_I_sendBatch_0 rfl 0 rfl rfl ?_
  refine X_get Γ d_I_sendBatch_1 (by decide) kC_I rfl in_I 1 (by decide) w196 rfl rfl rfl ?_
  refine X_aload_n Γ d_I_sendBatch_4 rfl 1 rfl rfl ?_
  refine X_getN Γ d_I_sendBatch_5 (Nat.lt_of_lt_of_le n1_2 (by decide : 6 ≤ 56)) (kC_B n1_1 n1_2) rfl in_B 1 (by decide) w151 rfl rfl rfl ?_
  refine X_getN Γ d_I_sendBatch_8 (Nat.lt_of_lt_of_le (Nat.lt_of_lt_of_le (Nat.add_lt_add_right n1_2 4) (by decide : 6 + 4 ≤ 10)) (by decide : 10 ≤ 56)) (kC_L (Nat.le_trans (by decide : 6 ≤ 2 + 4) (Nat.add_le_add_right n1_1 4)) (Nat.lt_of_lt_of_le (Nat.add_lt_add_right n1_2 4) (by decide : 6 + 4 ≤ 10))) rfl in_L 2 (by decide) w137 rfl rfl rfl ?_
  refine X_aload_n Γ d_I_sendBatch_11 rfl 2 rfl rfl ?_
  refine X_getN Γ d_I_sendBatch_12 (Nat.lt_of_lt_of_le n2_2 (by decide : 38 ≤ 56)) (kC_G n2_1 n2_2) rfl in_G 7 (by decide) w86 rfl rfl rfl ?_
  refine X_isub Γ d_I_sendBatch_15 rfl ?_
  refine X_mmin Γ d_I_sendBatch_16 w22 w23 w2 w24 (by decide) (Nat.le_of_ble_eq_true rfl) rfl ?_
  refine X_istore_n Γ d_I_sendBatch_19 rfl (by decide) rfl rfl ?_
  refine X_aload_n Γ d_I_sendBatch_20 rfl 1 rfl rfl ?_
  refine X_get Γ d_I_sendBatch_21 (by decide) kC_I rfl in_I 5 (by decide) w200 rfl rfl rfl ?_
  refine X_iconst (v := 2) Γ d_I_sendBatch_24 (by decide) rfl ?_
  refine X_aload_n Γ d_I_sendBatch_25 rfl 2 rfl rfl ?_
  refine X_aload_n Γ d_I_sendBatch_26 rfl 3 rfl rfl ?_
  refine X_getN Γ d_I_sendBatch_27 (Nat.lt_of_lt_of_le n2_2 (by decide : 38 ≤ 56)) (kC_G n2_1 n2_2) rfl in_G 3 (by decide) w71 rfl rfl rfl ?_
  refine X_aload_n Γ d_I_sendBatch_30 rfl 3 rfl rfl ?_
  refine X_getN Γ d_I_sendBatch_31 (Nat.lt_of_lt_of_le n2_2 (by decide : 38 ≤ 56)) (kC_G n2_1 n2_2) rfl in_G 6 (by decide) w82 rfl rfl rfl ?_
  refine X_iload_n Γ d_I_sendBatch_34 rfl 0 rfl rfl ?_
  refine X_aload_n Γ d_I_sendBatch_35 rfl 2 rfl rfl ?_
  refine X_getN Γ d_I_sendBatch_36 (Nat.lt_of_lt_of_le n1_2 (by decide : 6 ≤ 56)) (kC_B n1_1 n1_2) rfl in_B 7 (by decide) w162 rfl rfl rfl ?_
  refine X_callVNq (rest := []) Γ d_I_sendBatch_39 (m_H_send l D cI cZ cB cM a hJ P G 2 n1_ n1_1 n1_2 (G n2_ 3) (G n2_ 6) (if ((G (n1_ + 4) 2) - (G n2_ 7)) < (G 0 1) then ((G (n1_ + 4) 2) - (G n2_ 7)) else (G 0 1)) (G n1_ 7) hP9 hc) (by decide) kC_H rfl rfl w308 w310 s_H_send w4 w311 e_H_send ⟨by decide, by decide⟩ ⟨rfl, rfl⟩ rfl rfl (Nat.le_of_ble_eq_true rfl) rfl ?_
  refine X_cq (r := ((f_H_send 2 n1_ (G n2_ 3) (G n2_ 6) (if ((G (n1_ + 4) 2) - (G n2_ 7)) < (G 0 1) then ((G (n1_ + 4) 2) - (G n2_ 7)) else (G 0 1)) (G n1_ 7) G P).1)) (fun h39 => ?_) (fun h39 => ?_)
  · replace E := E.trans (if_pos h39)
    refine X_astoreN Γ d_I_sendBatch_42 (by decide) rfl rfl ?_
    refine X_aloadN Γ d_I_sendBatch_44 0 rfl rfl ?_
    refine X_ifnullN (pc' := 62) Γ d_I_sendBatch_46 (by decide) ?_
    exact X_vret Γ d_I_sendBatch_62 (gv_eq E)
  · replace E := E.trans (if_neg h39)
    refine X_astore Γ d_I_sendBatch_42 (by decide) rfl rfl ?_
    refine X_aload Γ d_I_sendBatch_44 0 rfl rfl ?_
    refine X_ifnull Γ d_I_sendBatch_46 rfl ?_
    refine X_aload Γ d_I_sendBatch_49 0 rfl rfl ?_
    refine X_aload_n Γ d_I_sendBatch_51 rfl 3 rfl rfl ?_
    refine X_getN Γ d_I_sendBatch_52 (Nat.lt_of_lt_of_le n1_2 (by decide : 6 ≤ 56)) (kC_B n1_1 n1_2) rfl in_B 1 (by decide) w151 rfl rfl rfl ?_
    refine X_aload_n Γ d_I_sendBatch_55 rfl 4 rfl rfl ?_
    refine X_getN Γ d_I_sendBatch_56 (Nat.lt_of_lt_of_le n2_2 (by decide : 38 ≤ 56)) (kC_G n2_1 n2_2) rfl in_G 7 (by decide) w86 rfl rfl rfl ?_
    refine X_callVNv (rest := []) Γ d_I_sendBatch_59 (m_G_copyRecords l D cI cZ cB cM a hJ P ((f_H_send 2 n1_ (G n2_ 3) (G n2_ 6) (if ((G (n1_ + 4) 2) - (G n2_ 7)) < (G 0 1) then ((G (n1_ + 4) 2) - (G n2_ 7)) else (G 0 1)) (G n1_ 7) G P).2) (((f_H_send 2 n1_ (G n2_ 3) (G n2_ 6) (if ((G (n1_ + 4) 2) - (G n2_ 7)) < (G 0 1) then ((G (n1_ + 4) 2) - (G n2_ 7)) else (G 0 1)) (G n1_ 7) G P).1).getD 0) (sd_lo h39) (sd_hi hP9 hc h39) (n1_ + 4) (Nat.le_trans (by decide : 6 ≤ 2 + 4) (Nat.add_le_add_right n1_1 4)) (Nat.lt_of_lt_of_le (Nat.add_lt_add_right n1_2 4) (by decide : 6 + 4 ≤ 10)) (((f_H_send 2 n1_ (G n2_ 3) (G n2_ 6) (if ((G (n1_ + 4) 2) - (G n2_ 7)) < (G 0 1) then ((G (n1_ + 4) 2) - (G n2_ 7)) else (G 0 1)) (G n1_ 7) G P).2) n2_ 7) (okL_sd hE n1_1 n1_2)) (Nat.lt_of_lt_of_le (sd_hi hP9 hc h39) (by decide : 38 ≤ 56)) (kC_G (sd_lo h39) (sd_hi hP9 hc h39)) rfl rfl w341 w343 s_G_copyRecords w5 w344 e_G_copyRecords ⟨by decide, by decide⟩ ⟨rfl, rfl⟩ rfl rfl (Nat.le_of_ble_eq_true rfl) rfl ?_
    exact X_vret Γ d_I_sendBatch_62 (gv_eq E)
end
section
def f_I_answer (n1_ : Nat) (n2_ : Nat) (G : Nat → Nat → Int32) (P : Nat → Nat) : (Nat → Nat → Int32) := (if ((f_B_leads n1_ G)) = 0 then G else (if (G n1_ 5) = (G n2_ 5) then (if ((f_L_continues (n1_ + 4) (G n2_ 7) (G n2_ 8) G)) = 0 then ((f_I_sendCut n1_ n2_ G P)) else ((f_I_sendBatch n1_ n2_ ((f_B_noteFetched n1_ (G n2_ 3) (G n2_ 7) (G 0 6) G)) P))) else G))
theorem e_I_answer : y_I_answer.cls ≠ "java/lang/invoke/MethodHandle" ∧ y_I_answer.cls ≠ "java/lang/invoke/VarHandle" ∧ (parseMethodDescriptor y_I_answer.desc).map (fun d => d.parameters.length) = some 2 := by decide +kernel
set_option maxHeartbeats 4000000 in
set_option maxRecDepth 100000 in
theorem m_I_answer (l : Launch) (D : va_G) (cI cZ cB cM : ClassId) (a : Nat → Nat) (hJ : xJ 56 a) (P : Nat → Nat) (G : Nat → Nat → Int32) (n1_ : Nat) (n1_1 : 2 ≤ n1_) (n1_2 : n1_ < 6) (n2_ : Nat) (n2_1 : 29 ≤ n2_) (n2_2 : n2_ < 38) (hE : okL G (n1_ + 4)) (hf : vp_in (G n2_ 3) 4) (hP9 : ∀ j : Nat, j < 9 → P j < 9) (hc : okH G) : Met l y_I_answer (Cond.code y_I_answer prog_1_method_28_code 3 (Option.none : Option FieldType) :: wsBig) { frames := 5, cells := 0, slots := 0, locals := 108 } (xP D xcl (xty cI cZ cB cM) 56 a (kg (kC cI cB cM a P) G) [.ref (a 0), .ref (a n1_), .ref (a n2_)]) (xQv D xcl 56 a (kg (kC cI cB cM a P) (f_I_answer n1_ n2_ G P))) 0 0 (xA 56 a) := by
  refine X_met (by decide) rfl (Nat.le_of_ble_eq_true rfl) hJ (fun Y s m args Γ => ?_)
  show X Y s m D xcl 56 a 3 (kg (kC cI cB cM a P) G) 0 [(0, .ref (a 0)), (1, .ref (a n1_)), (2, .ref (a n2_))] []
  have E := f_I_answer.eq_1 n1_ n2_ G P
  refine X_aload_n Γ d_I_answer_0 rfl 1 rfl rfl ?_
  refine X_callVNi (rest := []) Γ d_I_answer_1 (m_B_leads l D cI cZ cB cM a hJ P G n1_ n1_1 n1_2) (Nat.lt_of_lt_of_le n1_2 (by decide : 6 ≤ 56)) (kC_B n1_1 n1_2) rfl rfl w228 w230 s_B_leads w6 w231 e_B_leads ⟨by decide, by decide⟩ ⟨rfl, rfl⟩ rfl rfl (Nat.le_of_ble_eq_true rfl) rfl ?_
  refine X_if_eq (tgt := 18) Γ d_I_answer_4 (by decide) rfl (fun h4 => ?_) (fun h4 => ?_)
  · replace E := E.trans (if_pos h4)
    exact X_vret Γ d_I_answer_18 (gv_eq E)
  · replace E := E.trans (if_neg h4)
    refine X_aload_n Γ d_I_answer_7 rfl 1 rfl rfl ?_
    refine X_getN Γ d_I_answer_8 (Nat.lt_of_lt_of_le n1_2 (by decide : 6 ≤ 56)) (kC_B n1_1 n1_2) rfl in_B 5 (by decide) w157 rfl rfl rfl ?_
    refine X_aload_n Γ d_I_answer_11 rfl 2 rfl rfl ?_
    refine X_getN Γ d_I_answer_12 (Nat.lt_of_lt_of_le n2_2 (by decide : 38 ≤ 56)) (kC_G n2_1 n2_2) rfl in_G 5 (by decide) w78 rfl rfl rfl ?_
    refine X_icmp_eq (tgt := 19) Γ d_I_answer_15 (by decide) rfl (fun h15 => ?_) (fun h15 => ?_)
    · replace E := E.trans (if_pos h15)
      refine X_aload_n Γ d_I_answer_19 rfl 1 rfl rfl ?_
      refine X_getN Γ d_I_answer_20 (Nat.lt_of_lt_of_le n1_2 (by decide : 6 ≤ 56)) (kC_B n1_1 n1_2) rfl in_B 1 (by decide) w151 rfl rfl rfl ?_
      refine X_aload_n Γ d_I_answer_23 rfl 2 rfl rfl ?_
      refine X_getN Γ d_I_answer_24 (Nat.lt_of_lt_of_le n2_2 (by decide : 38 ≤ 56)) (kC_G n2_1 n2_2) rfl in_G 7 (by decide) w86 rfl rfl rfl ?_
      refine X_aload_n Γ d_I_answer_27 rfl 2 rfl rfl ?_
      refine X_getN Γ d_I_answer_28 (Nat.lt_of_lt_of_le n2_2 (by decide : 38 ≤ 56)) (kC_G n2_1 n2_2) rfl in_G 8 (by decide) w90 rfl rfl rfl ?_
      refine X_callVNi (rest := []) Γ d_I_answer_31 (m_L_continues l D cI cZ cB cM a hJ P G (n1_ + 4) (Nat.le_trans (by decide : 6 ≤ 2 + 4) (Nat.add_le_add_right n1_1 4)) (Nat.lt_of_lt_of_le (Nat.add_lt_add_right n1_2 4) (by decide : 6 + 4 ≤ 10)) (G n2_ 7) (G n2_ 8) hE) (Nat.lt_of_lt_of_le (Nat.lt_of_lt_of_le (Nat.add_lt_add_right n1_2 4) (by decide : 6 + 4 ≤ 10)) (by decide : 10 ≤ 56)) (kC_L (Nat.le_trans (by decide : 6 ≤ 2 + 4) (Nat.add_le_add_right n1_1 4)) (Nat.lt_of_lt_of_le (Nat.add_lt_add_right n1_2 4) (by decide : 6 + 4 ≤ 10))) rfl rfl w328 w330 s_L_continues w7 w331 e_L_continues ⟨by decide, by decide⟩ ⟨rfl, rfl⟩ rfl rfl (Nat.le_of_ble_eq_true rfl) rfl ?_
      refine X_if_eq (tgt := 62) Γ d_I_answer_34 (by decide) rfl (fun h34 => ?_) (fun h34 => ?_)
      · replace E := E.trans (if_pos h34)
        refine X_aload_n Γ d_I_answer_62 rfl 0 rfl rfl ?_
        refine X_aload_n Γ d_I_answer_63 rfl 1 rfl rfl ?_
        refine X_aload_n Γ d_I_answer_64 rfl 2 rfl rfl ?_
        refine X_callVv (rest := []) Γ d_I_answer_65 (m_I_sendCut l D cI cZ cB cM a hJ P G n1_ n1_1 n1_2 n2_ n2_1 n2_2 hE hP9 hc) (by decide) kC_I rfl rfl w347 w349 s_I_sendCut w1 w350 e_I_sendCut ⟨by decide, by decide⟩ ⟨rfl, rfl⟩ rfl rfl (Nat.le_of_ble_eq_true rfl) rfl ?_
        exact X_vret Γ d_I_answer_68 (gv_eq E)
      · replace E := E.trans (if_neg h34)
        refine X_aload_n Γ d_I_answer_37 rfl 1 rfl rfl ?_
        refine X_aload_n Γ d_I_answer_38 rfl 2 rfl rfl ?_
        refine X_getN Γ d_I_answer_39 (Nat.lt_of_lt_of_le n2_2 (by decide : 38 ≤ 56)) (kC_G n2_1 n2_2) rfl in_G 3 (by decide) w71 rfl rfl rfl ?_
        refine X_aload_n Γ d_I_answer_42 rfl 2 rfl rfl ?_
        refine X_getN Γ d_I_answer_43 (Nat.lt_of_lt_of_le n2_2 (by decide : 38 ≤ 56)) (kC_G n2_1 n2_2) rfl in_G 7 (by decide) w86 rfl rfl rfl ?_
        refine X_aload_n Γ d_I_answer_46 rfl 0 rfl rfl ?_
        refine X_get Γ d_I_answer_47 (by decide) kC_I rfl in_I 6 (by decide) w201 rfl rfl rfl ?_
        refine X_callVNv (rest := []) Γ d_I_answer_50 (m_B_noteFetched l D cI cZ cB cM a hJ P G n1_ n1_1 n1_2 (G n2_ 3) (G n2_ 7) (G 0 6) hf) (Nat.lt_of_lt_of_le n1_2 (by decide : 6 ≤ 56)) (kC_B n1_1 n1_2) rfl rfl w332 w334 s_B_noteFetched w6 w335 e_B_noteFetched ⟨by decide, by decide⟩ ⟨rfl, rfl⟩ rfl rfl (Nat.le_of_ble_eq_true rfl) rfl ?_
        refine X_aload_n Γ d_I_answer_53 rfl 0 rfl rfl ?_
        refine X_aload_n Γ d_I_answer_54 rfl 1 rfl rfl ?_
        refine X_aload_n Γ d_I_answer_55 rfl 2 rfl rfl ?_
        refine X_callVv (rest := []) Γ d_I_answer_56 (m_I_sendBatch l D cI cZ cB cM a hJ P ((f_B_noteFetched n1_ (G n2_ 3) (G n2_ 7) (G 0 6) G)) n1_ n1_1 n1_2 n2_ n2_1 n2_2 (okL_nf hE n1_1 n1_2) hP9 (okH_nf hc n1_1 n1_2)) (by decide) kC_I rfl rfl w337 w339 s_I_sendBatch w1 w340 e_I_sendBatch ⟨by decide, by decide⟩ ⟨rfl, rfl⟩ rfl rfl (Nat.le_of_ble_eq_true rfl) rfl ?_
        refine X_goto (pc' := 68) Γ d_I_answer_59 (by decide) ?_
        exact X_vret Γ d_I_answer_68 (gv_eq E)
    · replace E := E.trans (if_neg h15)
      exact X_vret Γ d_I_answer_18 (gv_eq E)
end
section
def f_I_deliver (x1 : Int32) (G : Nat → Nat → Int32) (P : Nat → Nat) : Int32 × (Nat → Nat → Int32) × (Nat → Nat) := (if ((f_H_take x1 G P).1) = none then (0, ((f_H_take x1 G P).2.1), ((f_H_take x1 G P).2.2)) else (if (((f_H_take x1 G P).2.1) (((f_H_take x1 G P).1).getD 0) 2) = 0 then (1, ((f_I_answer (2 + (((f_H_take x1 G P).2.1) (((f_H_take x1 G P).1).getD 0) 4).toNatClampNeg) (((f_H_take x1 G P).1).getD 0) ((f_H_take x1 G P).2.1) ((f_H_take x1 G P).2.2))), ((f_H_take x1 G P).2.2)) else (1, ((f_B_accept (2 + (((f_H_take x1 G P).2.1) (((f_H_take x1 G P).1).getD 0) 4).toNatClampNeg) (((f_H_take x1 G P).1).getD 0) ((f_H_take x1 G P).2.1))), ((f_H_take x1 G P).2.2))))
theorem e_I_deliver : y_I_deliver.cls ≠ "java/lang/invoke/MethodHandle" ∧ y_I_deliver.cls ≠ "java/lang/invoke/VarHandle" ∧ (parseMethodDescriptor y_I_deliver.desc).map (fun d => d.parameters.length) = some 1 := by decide +kernel
set_option maxHeartbeats 4000000 in
set_option maxRecDepth 100000 in
theorem m_I_deliver (l : Launch) (D : va_G) (cI cZ cB cM : ClassId) (a : Nat → Nat) (hJ : xJ 56 a) (P : Nat → Nat) (G : Nat → Nat → Int32) (x1 : Int32) (hP9 : ∀ j : Nat, j < 9 → P j < 9) (hc : okH G) (hE : ∀ j : Nat, j < 4 → okL G (2 + j + 4)) (hM : ∀ j : Nat, j < 9 → vp_in (G (29 + j) 4) 4 ∧ vp_in (G (29 + j) 3) 4) : Met l y_I_deliver (Cond.code y_I_deliver prog_1_method_7_code 4 (Option.some FieldType.boolean) :: wsBig) { frames := 6, cells := 0, slots := 0, locals := 130 } (xP D xcl (xty cI cZ cB cM) 56 a (kg (kC cI cB cM a P) G) [.ref (a 0), .int x1]) (xQi D xcl 56 a ((f_I_deliver x1 G P).1) (kg (kC cI cB cM a ((f_I_deliver x1 G P).2.2)) ((f_I_deliver x1 G P).2.1))) 0 0 (xA 56 a) := by
  refine X_met (by decide) rfl (Nat.le_of_ble_eq_true rfl) hJ (fun Y s m args Γ => ?_)
  show X Y s m D xcl 56 a 4 (kg (kC cI cB cM a P) G) 0 [(0, .ref (a 0)), (1, .int x1)] []
  have E := f_I_deliver.eq_1 x1 G P
  refine X_aload_n Γ d_I_deliver_0 rfl 0 rfl rfl ?_
  refine X_get Γ d_I_deliver_1 (by decide) kC_I rfl in_I 5 (by decide) w200 rfl rfl rfl ?_
  refine X_iload_n Γ d_I_deliver_4 rfl 1 rfl rfl ?_
  refine X_callVNq (rest := []) Γ d_I_deliver_5 (m_H_take l D cI cZ cB cM a hJ P G x1 hP9 hc) (by decide) kC_H rfl rfl w316 w318 s_H_take w4 w319 e_H_take ⟨by decide, by decide⟩ ⟨rfl, rfl⟩ rfl rfl (Nat.le_of_ble_eq_true rfl) rfl ?_
  refine X_cq (r := ((f_H_take x1 G P).1)) (fun h5 => ?_) (fun h5 => ?_)
  · replace E := E.trans (if_pos h5)
    refine X_astore_nN Γ d_I_deliver_8 rfl (by decide) rfl rfl ?_
    refine X_aload_nN Γ d_I_deliver_9 rfl 0 rfl rfl ?_
    refine X_ifnonnullN Γ d_I_deliver_10 rfl ?_
    refine X_iconst (v := 0) Γ d_I_deliver_13 (by decide) rfl ?_
    exact X_iretz Γ d_I_deliver_14 rfl (gp_r E) (gp_eq E)
  · replace E := E.trans (if_neg h5)
    refine X_astore_n Γ d_I_deliver_8 rfl (by decide) rfl rfl ?_
    refine X_aload_n Γ d_I_deliver_9 rfl 0 rfl rfl ?_
    refine X_ifnonnull (pc' := 15) Γ d_I_deliver_10 (by decide) ?_
    refine X_aload_n Γ d_I_deliver_15 rfl 1 rfl rfl ?_
    refine X_get Γ d_I_deliver_16 (by decide) kC_I rfl in_I 3 (by decide) w198 rfl rfl rfl ?_
    refine X_aload_n Γ d_I_deliver_19 rfl 0 rfl rfl ?_
    refine X_getN Γ d_I_deliver_20 (Nat.lt_of_lt_of_le (tk_hi hP9 hc h5) (by decide : 38 ≤ 56)) (kC_G (tk_lo hP9 hc h5) (tk_hi hP9 hc h5)) rfl in_G 4 (by decide) w74 rfl rfl rfl ?_
    refine X_aald Γ d_I_deliver_23 (by decide) kC_BA 2 rfl (tk_to hM hP9 hc h5) rfl rfl ?_
    refine X_astore_n Γ d_I_deliver_24 rfl (by decide) rfl rfl ?_
    refine X_aload_n Γ d_I_deliver_25 rfl 1 rfl rfl ?_
    refine X_getN Γ d_I_deliver_26 (Nat.lt_of_lt_of_le (tk_hi hP9 hc h5) (by decide : 38 ≤ 56)) (kC_G (tk_lo hP9 hc h5) (tk_hi hP9 hc h5)) rfl in_G 2 (by decide) w67 rfl rfl rfl ?_
    refine X_if_ne (tgt := 41) Γ d_I_deliver_29 (by decide) rfl (fun h29 => ?_) (fun h29 => ?_)
    · replace E := E.trans (if_neg h29)
      refine X_aload_n Γ d_I_deliver_41 rfl 0 rfl rfl ?_
      refine X_aload_n Γ d_I_deliver_42 rfl 1 rfl rfl ?_
      refine X_callVNv (rest := []) Γ d_I_deliver_43 (m_B_accept l D cI cZ cB cM a hJ ((f_H_take x1 G P).2.2) ((f_H_take x1 G P).2.1) (2 + (((f_H_take x1 G P).2.1) (((f_H_take x1 G P).1).getD 0) 4).toNatClampNeg) (Nat.le_add_right 2 _) (Nat.add_lt_add_left (vp_lt (tk_to hM hP9 hc h5)) 2) (((f_H_take x1 G P).1).getD 0) (tk_lo hP9 hc h5) (tk_hi hP9 hc h5) (tk_okL hP9 hc (by have := vp_lt (tk_to hM hP9 hc h5); omega) (hE _ (vp_lt (tk_to hM hP9 hc h5))))) (Nat.lt_of_lt_of_le (Nat.add_lt_add_left (vp_lt (tk_to hM hP9 hc h5)) 2) (by decide : 6 ≤ 56)) (kC_B (Nat.le_add_right 2 _) (Nat.add_lt_add_left (vp_lt (tk_to hM hP9 hc h5)) 2)) rfl rfl w356 w358 s_B_accept w6 w359 e_B_accept ⟨by decide, by decide⟩ ⟨rfl, rfl⟩ rfl rfl (Nat.le_of_ble_eq_true rfl) rfl ?_
      refine X_iconst (v := 1) Γ d_I_deliver_46 (by decide) rfl ?_
      exact X_iretz Γ d_I_deliver_47 rfl (gp_r E) (gp_eq E)
    · replace E := E.trans (if_pos h29)
      refine X_aload_n Γ d_I_deliver_32 rfl 2 rfl rfl ?_
      refine X_aload_n Γ d_I_deliver_33 rfl 0 rfl rfl ?_
      refine X_aload_n Γ d_I_deliver_34 rfl 1 rfl rfl ?_
      refine X_callVv (rest := []) Γ d_I_deliver_35 (m_I_answer l D cI cZ cB cM a hJ ((f_H_take x1 G P).2.2) ((f_H_take x1 G P).2.1) (2 + (((f_H_take x1 G P).2.1) (((f_H_take x1 G P).1).getD 0) 4).toNatClampNeg) (Nat.le_add_right 2 _) (Nat.add_lt_add_left (vp_lt (tk_to hM hP9 hc h5)) 2) (((f_H_take x1 G P).1).getD 0) (tk_lo hP9 hc h5) (tk_hi hP9 hc h5) (tk_okL hP9 hc (by have := vp_lt (tk_to hM hP9 hc h5); omega) (hE _ (vp_lt (tk_to hM hP9 hc h5)))) (tk_from hM hP9 hc h5) (tk_P9 hP9 hc) (tk_okH hP9 hc)) (by decide) kC_I rfl rfl w324 w326 s_I_answer w1 w327 e_I_answer ⟨by decide, by decide⟩ ⟨rfl, rfl⟩ rfl rfl (Nat.le_of_ble_eq_true rfl) rfl ?_
      refine X_goto (pc' := 46) Γ d_I_deliver_38 (by decide) ?_
      refine X_iconst (v := 1) Γ d_I_deliver_46 (by decide) rfl ?_
      exact X_iretz Γ d_I_deliver_47 rfl (gp_r E) (gp_eq E)
end
