-- ===== PART A: goes FIRST, ahead of the names: the tables' words, and 'selects' of the private methods out of them =====
/-- a private method of a class that the tables say can be made, by its rows of tables_1 -/
def lw_okq (q : MethodName × Nat) : Prop := (q.1.cls ≠ "java/lang/invoke/MethodHandle" ∧ q.1.cls ≠ "java/lang/invoke/VarHandle") ∧ Cond.instantiable q.1.cls q.2 ∈ tables_1 ∧ Cond.privateMethod q.1 ∈ tables_1 ∧ Cond.instanceMethod q.1 ∈ tables_1
theorem lw_p0 : lw_okq (⟨"PassedToken$Ear", "takeSecond", "(I)V"⟩, 6) := ⟨⟨by decide +kernel, by decide +kernel⟩, List.mem_of_getElem? (i := 108) (by decide +kernel), List.mem_of_getElem? (i := 205) (by decide +kernel), List.mem_of_getElem? (i := 206) (by decide +kernel)⟩
theorem lw_p1 : lw_okq (⟨"PassedToken$Ear", "takeHeader", "(I)V"⟩, 6) := ⟨⟨by decide +kernel, by decide +kernel⟩, List.mem_of_getElem? (i := 108) (by decide +kernel), List.mem_of_getElem? (i := 210) (by decide +kernel), List.mem_of_getElem? (i := 211) (by decide +kernel)⟩
theorem lw_p2 : lw_okq (⟨"PassedToken$Ear", "takeHeaderCheck", "(I)I"⟩, 6) := ⟨⟨by decide +kernel, by decide +kernel⟩, List.mem_of_getElem? (i := 108) (by decide +kernel), List.mem_of_getElem? (i := 225) (by decide +kernel), List.mem_of_getElem? (i := 226) (by decide +kernel)⟩
theorem lw_p3 : lw_okq (⟨"PassedToken$Ear", "dataBytes", "()I"⟩, 6) := ⟨⟨by decide +kernel, by decide +kernel⟩, List.mem_of_getElem? (i := 108) (by decide +kernel), List.mem_of_getElem? (i := 229) (by decide +kernel), List.mem_of_getElem? (i := 230) (by decide +kernel)⟩
theorem lw_p4 : lw_okq (⟨"PassedToken$Ear", "ended", "()I"⟩, 6) := ⟨⟨by decide +kernel, by decide +kernel⟩, List.mem_of_getElem? (i := 108) (by decide +kernel), List.mem_of_getElem? (i := 237) (by decide +kernel), List.mem_of_getElem? (i := 238) (by decide +kernel)⟩
theorem lw_p5 : lw_okq (⟨"PassedToken$Ear", "takeData", "(I)V"⟩, 6) := ⟨⟨by decide +kernel, by decide +kernel⟩, List.mem_of_getElem? (i := 108) (by decide +kernel), List.mem_of_getElem? (i := 246) (by decide +kernel), List.mem_of_getElem? (i := 247) (by decide +kernel)⟩
theorem lw_p6 : lw_okq (⟨"PassedToken$Ear", "takeHighCheck", "(I)I"⟩, 6) := ⟨⟨by decide +kernel, by decide +kernel⟩, List.mem_of_getElem? (i := 108) (by decide +kernel), List.mem_of_getElem? (i := 251) (by decide +kernel), List.mem_of_getElem? (i := 252) (by decide +kernel)⟩
theorem lw_p7 : lw_okq (⟨"PassedToken", "settle", "(I)V"⟩, 18) := ⟨⟨by decide +kernel, by decide +kernel⟩, List.mem_of_getElem? (i := 10) (by decide +kernel), List.mem_of_getElem? (i := 255) (by decide +kernel), List.mem_of_getElem? (i := 256) (by decide +kernel)⟩
theorem lw_p8 : lw_okq (⟨"PassedToken", "idleLine", "(I)Z"⟩, 18) := ⟨⟨by decide +kernel, by decide +kernel⟩, List.mem_of_getElem? (i := 10) (by decide +kernel), List.mem_of_getElem? (i := 259) (by decide +kernel), List.mem_of_getElem? (i := 260) (by decide +kernel)⟩
theorem lw_p9 : lw_okq (⟨"PassedToken", "send", "(IILPassedToken$Row;)V"⟩, 18) := ⟨⟨by decide +kernel, by decide +kernel⟩, List.mem_of_getElem? (i := 10) (by decide +kernel), List.mem_of_getElem? (i := 272) (by decide +kernel), List.mem_of_getElem? (i := 273) (by decide +kernel)⟩
theorem lw_p10 : lw_okq (⟨"PassedToken$Desk", "begin", "(II)V"⟩, 13) := ⟨⟨by decide +kernel, by decide +kernel⟩, List.mem_of_getElem? (i := 32) (by decide +kernel), List.mem_of_getElem? (i := 308) (by decide +kernel), List.mem_of_getElem? (i := 309) (by decide +kernel)⟩
theorem lw_p11 : lw_okq (⟨"PassedToken$Desk", "takesPlace", "()Z"⟩, 13) := ⟨⟨by decide +kernel, by decide +kernel⟩, List.mem_of_getElem? (i := 32) (by decide +kernel), List.mem_of_getElem? (i := 313) (by decide +kernel), List.mem_of_getElem? (i := 314) (by decide +kernel)⟩
theorem lw_p12 : lw_okq (⟨"PassedToken$Desk", "follows", "(I)Z"⟩, 13) := ⟨⟨by decide +kernel, by decide +kernel⟩, List.mem_of_getElem? (i := 32) (by decide +kernel), List.mem_of_getElem? (i := 317) (by decide +kernel), List.mem_of_getElem? (i := 318) (by decide +kernel)⟩
theorem lw_p13 : lw_okq (⟨"PassedToken$Desk", "nextInt", "()I"⟩, 13) := ⟨⟨by decide +kernel, by decide +kernel⟩, List.mem_of_getElem? (i := 32) (by decide +kernel), List.mem_of_getElem? (i := 321) (by decide +kernel), List.mem_of_getElem? (i := 322) (by decide +kernel)⟩
theorem lw_p14 : lw_okq (⟨"PassedToken$Desk", "nextByte", "()I"⟩, 13) := ⟨⟨by decide +kernel, by decide +kernel⟩, List.mem_of_getElem? (i := 32) (by decide +kernel), List.mem_of_getElem? (i := 325) (by decide +kernel), List.mem_of_getElem? (i := 326) (by decide +kernel)⟩
theorem lw_p15 : lw_okq (⟨"PassedToken$Desk", "takesWritten", "()Z"⟩, 13) := ⟨⟨by decide +kernel, by decide +kernel⟩, List.mem_of_getElem? (i := 32) (by decide +kernel), List.mem_of_getElem? (i := 329) (by decide +kernel), List.mem_of_getElem? (i := 330) (by decide +kernel)⟩
def lw_privs_1 : List (MethodName × Nat) := [(⟨"PassedToken$Ear", "takeSecond", "(I)V"⟩, 6), (⟨"PassedToken$Ear", "takeHeader", "(I)V"⟩, 6), (⟨"PassedToken$Ear", "takeHeaderCheck", "(I)I"⟩, 6), (⟨"PassedToken$Ear", "dataBytes", "()I"⟩, 6), (⟨"PassedToken$Ear", "ended", "()I"⟩, 6), (⟨"PassedToken$Ear", "takeData", "(I)V"⟩, 6), (⟨"PassedToken$Ear", "takeHighCheck", "(I)I"⟩, 6), (⟨"PassedToken", "settle", "(I)V"⟩, 18), (⟨"PassedToken", "idleLine", "(I)Z"⟩, 18), (⟨"PassedToken", "send", "(IILPassedToken$Row;)V"⟩, 18), (⟨"PassedToken$Desk", "begin", "(II)V"⟩, 13), (⟨"PassedToken$Desk", "takesPlace", "()Z"⟩, 13), (⟨"PassedToken$Desk", "follows", "(I)Z"⟩, 13), (⟨"PassedToken$Desk", "nextInt", "()I"⟩, 13), (⟨"PassedToken$Desk", "nextByte", "()I"⟩, 13), (⟨"PassedToken$Desk", "takesWritten", "()Z"⟩, 13)]
theorem lw_r1 : ∀ q ∈ lw_privs_1, lw_okq q := List.forall_mem_cons.mpr ⟨lw_p0, List.forall_mem_cons.mpr ⟨lw_p1, List.forall_mem_cons.mpr ⟨lw_p2, List.forall_mem_cons.mpr ⟨lw_p3, List.forall_mem_cons.mpr ⟨lw_p4, List.forall_mem_cons.mpr ⟨lw_p5, List.forall_mem_cons.mpr ⟨lw_p6, List.forall_mem_cons.mpr ⟨lw_p7, List.forall_mem_cons.mpr ⟨lw_p8, List.forall_mem_cons.mpr ⟨lw_p9, List.forall_mem_cons.mpr ⟨lw_p10, List.forall_mem_cons.mpr ⟨lw_p11, List.forall_mem_cons.mpr ⟨lw_p12, List.forall_mem_cons.mpr ⟨lw_p13, List.forall_mem_cons.mpr ⟨lw_p14, List.forall_mem_cons.mpr ⟨lw_p15, fun _ h => absurd h List.not_mem_nil⟩⟩⟩⟩⟩⟩⟩⟩⟩⟩⟩⟩⟩⟩⟩⟩
theorem lw_p16 : lw_okq (⟨"PassedToken$Desk", "answerWellFormed", "()V"⟩, 13) := ⟨⟨by decide +kernel, by decide +kernel⟩, List.mem_of_getElem? (i := 32) (by decide +kernel), List.mem_of_getElem? (i := 333) (by decide +kernel), List.mem_of_getElem? (i := 334) (by decide +kernel)⟩
theorem lw_p17 : lw_okq (⟨"PassedToken$Desk", "thingOf", "(I)LPassedToken$Thing;"⟩, 13) := ⟨⟨by decide +kernel, by decide +kernel⟩, List.mem_of_getElem? (i := 32) (by decide +kernel), List.mem_of_getElem? (i := 337) (by decide +kernel), List.mem_of_getElem? (i := 338) (by decide +kernel)⟩
theorem lw_p18 : lw_okq (⟨"PassedToken$Desk", "fault", "()I"⟩, 13) := ⟨⟨by decide +kernel, by decide +kernel⟩, List.mem_of_getElem? (i := 32) (by decide +kernel), List.mem_of_getElem? (i := 345) (by decide +kernel), List.mem_of_getElem? (i := 346) (by decide +kernel)⟩
theorem lw_p19 : lw_okq (⟨"PassedToken$Desk", "faultOfWrite", "()I"⟩, 13) := ⟨⟨by decide +kernel, by decide +kernel⟩, List.mem_of_getElem? (i := 32) (by decide +kernel), List.mem_of_getElem? (i := 349) (by decide +kernel), List.mem_of_getElem? (i := 350) (by decide +kernel)⟩
theorem lw_p20 : lw_okq (⟨"PassedToken$Desk", "write", "()V"⟩, 13) := ⟨⟨by decide +kernel, by decide +kernel⟩, List.mem_of_getElem? (i := 32) (by decide +kernel), List.mem_of_getElem? (i := 361) (by decide +kernel), List.mem_of_getElem? (i := 362) (by decide +kernel)⟩
theorem lw_p21 : lw_okq (⟨"PassedToken$Desk", "tellPlace", "()V"⟩, 13) := ⟨⟨by decide +kernel, by decide +kernel⟩, List.mem_of_getElem? (i := 32) (by decide +kernel), List.mem_of_getElem? (i := 374) (by decide +kernel), List.mem_of_getElem? (i := 375) (by decide +kernel)⟩
theorem lw_p22 : lw_okq (⟨"PassedToken$Desk", "tellProperty", "()V"⟩, 13) := ⟨⟨by decide +kernel, by decide +kernel⟩, List.mem_of_getElem? (i := 32) (by decide +kernel), List.mem_of_getElem? (i := 382) (by decide +kernel), List.mem_of_getElem? (i := 383) (by decide +kernel)⟩
theorem lw_p23 : lw_okq (⟨"PassedToken$Desk", "valueRead", "()I"⟩, 13) := ⟨⟨by decide +kernel, by decide +kernel⟩, List.mem_of_getElem? (i := 32) (by decide +kernel), List.mem_of_getElem? (i := 390) (by decide +kernel), List.mem_of_getElem? (i := 391) (by decide +kernel)⟩
theorem lw_p24 : lw_okq (⟨"PassedToken", "sendAnswer", "(LPassedToken$Row;)V"⟩, 18) := ⟨⟨by decide +kernel, by decide +kernel⟩, List.mem_of_getElem? (i := 10) (by decide +kernel), List.mem_of_getElem? (i := 402) (by decide +kernel), List.mem_of_getElem? (i := 403) (by decide +kernel)⟩
theorem lw_p25 : lw_okq (⟨"PassedToken", "useLine", "()Z"⟩, 18) := ⟨⟨by decide +kernel, by decide +kernel⟩, List.mem_of_getElem? (i := 10) (by decide +kernel), List.mem_of_getElem? (i := 406) (by decide +kernel), List.mem_of_getElem? (i := 407) (by decide +kernel)⟩
theorem lw_p26 : lw_okq (⟨"PassedToken", "waitLine", "(I)Z"⟩, 18) := ⟨⟨by decide +kernel, by decide +kernel⟩, List.mem_of_getElem? (i := 10) (by decide +kernel), List.mem_of_getElem? (i := 410) (by decide +kernel), List.mem_of_getElem? (i := 411) (by decide +kernel)⟩
theorem lw_p27 : lw_okq (⟨"PassedToken", "endsWaiting", "()Z"⟩, 18) := ⟨⟨by decide +kernel, by decide +kernel⟩, List.mem_of_getElem? (i := 10) (by decide +kernel), List.mem_of_getElem? (i := 414) (by decide +kernel), List.mem_of_getElem? (i := 415) (by decide +kernel)⟩
theorem lw_p28 : lw_okq (⟨"PassedToken", "doneLine", "()Z"⟩, 18) := ⟨⟨by decide +kernel, by decide +kernel⟩, List.mem_of_getElem? (i := 10) (by decide +kernel), List.mem_of_getElem? (i := 418) (by decide +kernel), List.mem_of_getElem? (i := 419) (by decide +kernel)⟩
theorem lw_p29 : lw_okq (⟨"PassedToken", "behind", "(I)I"⟩, 18) := ⟨⟨by decide +kernel, by decide +kernel⟩, List.mem_of_getElem? (i := 10) (by decide +kernel), List.mem_of_getElem? (i := 422) (by decide +kernel), List.mem_of_getElem? (i := 423) (by decide +kernel)⟩
theorem lw_p30 : lw_okq (⟨"PassedToken", "poll", "(I)V"⟩, 18) := ⟨⟨by decide +kernel, by decide +kernel⟩, List.mem_of_getElem? (i := 10) (by decide +kernel), List.mem_of_getElem? (i := 426) (by decide +kernel), List.mem_of_getElem? (i := 427) (by decide +kernel)⟩
theorem lw_p31 : lw_okq (⟨"PassedToken", "pass", "(I)V"⟩, 18) := ⟨⟨by decide +kernel, by decide +kernel⟩, List.mem_of_getElem? (i := 10) (by decide +kernel), List.mem_of_getElem? (i := 430) (by decide +kernel), List.mem_of_getElem? (i := 431) (by decide +kernel)⟩
def lw_privs_2 : List (MethodName × Nat) := [(⟨"PassedToken$Desk", "answerWellFormed", "()V"⟩, 13), (⟨"PassedToken$Desk", "thingOf", "(I)LPassedToken$Thing;"⟩, 13), (⟨"PassedToken$Desk", "fault", "()I"⟩, 13), (⟨"PassedToken$Desk", "faultOfWrite", "()I"⟩, 13), (⟨"PassedToken$Desk", "write", "()V"⟩, 13), (⟨"PassedToken$Desk", "tellPlace", "()V"⟩, 13), (⟨"PassedToken$Desk", "tellProperty", "()V"⟩, 13), (⟨"PassedToken$Desk", "valueRead", "()I"⟩, 13), (⟨"PassedToken", "sendAnswer", "(LPassedToken$Row;)V"⟩, 18), (⟨"PassedToken", "useLine", "()Z"⟩, 18), (⟨"PassedToken", "waitLine", "(I)Z"⟩, 18), (⟨"PassedToken", "endsWaiting", "()Z"⟩, 18), (⟨"PassedToken", "doneLine", "()Z"⟩, 18), (⟨"PassedToken", "behind", "(I)I"⟩, 18), (⟨"PassedToken", "poll", "(I)V"⟩, 18), (⟨"PassedToken", "pass", "(I)V"⟩, 18)]
theorem lw_r2 : ∀ q ∈ lw_privs_2, lw_okq q := List.forall_mem_cons.mpr ⟨lw_p16, List.forall_mem_cons.mpr ⟨lw_p17, List.forall_mem_cons.mpr ⟨lw_p18, List.forall_mem_cons.mpr ⟨lw_p19, List.forall_mem_cons.mpr ⟨lw_p20, List.forall_mem_cons.mpr ⟨lw_p21, List.forall_mem_cons.mpr ⟨lw_p22, List.forall_mem_cons.mpr ⟨lw_p23, List.forall_mem_cons.mpr ⟨lw_p24, List.forall_mem_cons.mpr ⟨lw_p25, List.forall_mem_cons.mpr ⟨lw_p26, List.forall_mem_cons.mpr ⟨lw_p27, List.forall_mem_cons.mpr ⟨lw_p28, List.forall_mem_cons.mpr ⟨lw_p29, List.forall_mem_cons.mpr ⟨lw_p30, List.forall_mem_cons.mpr ⟨lw_p31, fun _ h => absurd h List.not_mem_nil⟩⟩⟩⟩⟩⟩⟩⟩⟩⟩⟩⟩⟩⟩⟩⟩
theorem lw_p32 : lw_okq (⟨"PassedToken", "passingLine", "()Z"⟩, 18) := ⟨⟨by decide +kernel, by decide +kernel⟩, List.mem_of_getElem? (i := 10) (by decide +kernel), List.mem_of_getElem? (i := 434) (by decide +kernel), List.mem_of_getElem? (i := 435) (by decide +kernel)⟩
theorem lw_p33 : lw_okq (⟨"PassedToken", "lostLine", "()Z"⟩, 18) := ⟨⟨by decide +kernel, by decide +kernel⟩, List.mem_of_getElem? (i := 10) (by decide +kernel), List.mem_of_getElem? (i := 438) (by decide +kernel), List.mem_of_getElem? (i := 439) (by decide +kernel)⟩
theorem lw_p34 : lw_okq (⟨"PassedToken", "answeredLine", "()Z"⟩, 18) := ⟨⟨by decide +kernel, by decide +kernel⟩, List.mem_of_getElem? (i := 10) (by decide +kernel), List.mem_of_getElem? (i := 442) (by decide +kernel), List.mem_of_getElem? (i := 443) (by decide +kernel)⟩
theorem lw_p35 : lw_okq (⟨"PassedToken", "isOtherStation", "(I)Z"⟩, 18) := ⟨⟨by decide +kernel, by decide +kernel⟩, List.mem_of_getElem? (i := 10) (by decide +kernel), List.mem_of_getElem? (i := 446) (by decide +kernel), List.mem_of_getElem? (i := 447) (by decide +kernel)⟩
theorem lw_p36 : lw_okq (⟨"PassedToken", "unansweredLine", "(I)Z"⟩, 18) := ⟨⟨by decide +kernel, by decide +kernel⟩, List.mem_of_getElem? (i := 10) (by decide +kernel), List.mem_of_getElem? (i := 450) (by decide +kernel), List.mem_of_getElem? (i := 451) (by decide +kernel)⟩
theorem lw_p37 : lw_okq (⟨"PassedTokenModel", "listen", "(I)V"⟩, 29) := ⟨⟨by decide +kernel, by decide +kernel⟩, List.mem_of_getElem? (i := 508) (by decide +kernel), List.mem_of_getElem? (i := 606) (by decide +kernel), List.mem_of_getElem? (i := 607) (by decide +kernel)⟩
theorem lw_p38 : lw_okq (⟨"PassedTokenModel", "endHeader", "()V"⟩, 29) := ⟨⟨by decide +kernel, by decide +kernel⟩, List.mem_of_getElem? (i := 508) (by decide +kernel), List.mem_of_getElem? (i := 610) (by decide +kernel), List.mem_of_getElem? (i := 611) (by decide +kernel)⟩
theorem lw_p39 : lw_okq (⟨"PassedTokenModel", "isForMe", "()Z"⟩, 29) := ⟨⟨by decide +kernel, by decide +kernel⟩, List.mem_of_getElem? (i := 508) (by decide +kernel), List.mem_of_getElem? (i := 617) (by decide +kernel), List.mem_of_getElem? (i := 618) (by decide +kernel)⟩
theorem lw_p40 : lw_okq (⟨"PassedTokenModel", "endData", "()V"⟩, 29) := ⟨⟨by decide +kernel, by decide +kernel⟩, List.mem_of_getElem? (i := 508) (by decide +kernel), List.mem_of_getElem? (i := 621) (by decide +kernel), List.mem_of_getElem? (i := 622) (by decide +kernel)⟩
theorem lw_p41 : lw_okq (⟨"PassedTokenModel", "settle", "()V"⟩, 29) := ⟨⟨by decide +kernel, by decide +kernel⟩, List.mem_of_getElem? (i := 508) (by decide +kernel), List.mem_of_getElem? (i := 630) (by decide +kernel), List.mem_of_getElem? (i := 631) (by decide +kernel)⟩
theorem lw_p42 : lw_okq (⟨"PassedTokenModel", "step", "()Z"⟩, 29) := ⟨⟨by decide +kernel, by decide +kernel⟩, List.mem_of_getElem? (i := 508) (by decide +kernel), List.mem_of_getElem? (i := 634) (by decide +kernel), List.mem_of_getElem? (i := 635) (by decide +kernel)⟩
theorem lw_p43 : lw_okq (⟨"PassedTokenModel", "idle", "()Z"⟩, 29) := ⟨⟨by decide +kernel, by decide +kernel⟩, List.mem_of_getElem? (i := 508) (by decide +kernel), List.mem_of_getElem? (i := 638) (by decide +kernel), List.mem_of_getElem? (i := 639) (by decide +kernel)⟩
theorem lw_p44 : lw_okq (⟨"PassedTokenModel", "send", "(III)V"⟩, 29) := ⟨⟨by decide +kernel, by decide +kernel⟩, List.mem_of_getElem? (i := 508) (by decide +kernel), List.mem_of_getElem? (i := 642) (by decide +kernel), List.mem_of_getElem? (i := 643) (by decide +kernel)⟩
theorem lw_p45 : lw_okq (⟨"PassedTokenModel", "put", "(I)V"⟩, 29) := ⟨⟨by decide +kernel, by decide +kernel⟩, List.mem_of_getElem? (i := 508) (by decide +kernel), List.mem_of_getElem? (i := 646) (by decide +kernel), List.mem_of_getElem? (i := 647) (by decide +kernel)⟩
theorem lw_p46 : lw_okq (⟨"PassedTokenModel", "makeAnswer", "()V"⟩, 29) := ⟨⟨by decide +kernel, by decide +kernel⟩, List.mem_of_getElem? (i := 508) (by decide +kernel), List.mem_of_getElem? (i := 650) (by decide +kernel), List.mem_of_getElem? (i := 651) (by decide +kernel)⟩
theorem lw_p47 : lw_okq (⟨"PassedTokenModel", "reject", "(II)V"⟩, 29) := ⟨⟨by decide +kernel, by decide +kernel⟩, List.mem_of_getElem? (i := 508) (by decide +kernel), List.mem_of_getElem? (i := 654) (by decide +kernel), List.mem_of_getElem? (i := 655) (by decide +kernel)⟩
def lw_privs_3 : List (MethodName × Nat) := [(⟨"PassedToken", "passingLine", "()Z"⟩, 18), (⟨"PassedToken", "lostLine", "()Z"⟩, 18), (⟨"PassedToken", "answeredLine", "()Z"⟩, 18), (⟨"PassedToken", "isOtherStation", "(I)Z"⟩, 18), (⟨"PassedToken", "unansweredLine", "(I)Z"⟩, 18), (⟨"PassedTokenModel", "listen", "(I)V"⟩, 29), (⟨"PassedTokenModel", "endHeader", "()V"⟩, 29), (⟨"PassedTokenModel", "isForMe", "()Z"⟩, 29), (⟨"PassedTokenModel", "endData", "()V"⟩, 29), (⟨"PassedTokenModel", "settle", "()V"⟩, 29), (⟨"PassedTokenModel", "step", "()Z"⟩, 29), (⟨"PassedTokenModel", "idle", "()Z"⟩, 29), (⟨"PassedTokenModel", "send", "(III)V"⟩, 29), (⟨"PassedTokenModel", "put", "(I)V"⟩, 29), (⟨"PassedTokenModel", "makeAnswer", "()V"⟩, 29), (⟨"PassedTokenModel", "reject", "(II)V"⟩, 29)]
theorem lw_r3 : ∀ q ∈ lw_privs_3, lw_okq q := List.forall_mem_cons.mpr ⟨lw_p32, List.forall_mem_cons.mpr ⟨lw_p33, List.forall_mem_cons.mpr ⟨lw_p34, List.forall_mem_cons.mpr ⟨lw_p35, List.forall_mem_cons.mpr ⟨lw_p36, List.forall_mem_cons.mpr ⟨lw_p37, List.forall_mem_cons.mpr ⟨lw_p38, List.forall_mem_cons.mpr ⟨lw_p39, List.forall_mem_cons.mpr ⟨lw_p40, List.forall_mem_cons.mpr ⟨lw_p41, List.forall_mem_cons.mpr ⟨lw_p42, List.forall_mem_cons.mpr ⟨lw_p43, List.forall_mem_cons.mpr ⟨lw_p44, List.forall_mem_cons.mpr ⟨lw_p45, List.forall_mem_cons.mpr ⟨lw_p46, List.forall_mem_cons.mpr ⟨lw_p47, fun _ h => absurd h List.not_mem_nil⟩⟩⟩⟩⟩⟩⟩⟩⟩⟩⟩⟩⟩⟩⟩⟩
theorem lw_p48 : lw_okq (⟨"PassedTokenModel", "add", "(I)V"⟩, 29) := ⟨⟨by decide +kernel, by decide +kernel⟩, List.mem_of_getElem? (i := 508) (by decide +kernel), List.mem_of_getElem? (i := 658) (by decide +kernel), List.mem_of_getElem? (i := 659) (by decide +kernel)⟩
theorem lw_p49 : lw_okq (⟨"PassedTokenModel", "expect", "(I)V"⟩, 29) := ⟨⟨by decide +kernel, by decide +kernel⟩, List.mem_of_getElem? (i := 508) (by decide +kernel), List.mem_of_getElem? (i := 662) (by decide +kernel), List.mem_of_getElem? (i := 663) (by decide +kernel)⟩
theorem lw_p50 : lw_okq (⟨"PassedTokenModel", "take", "()I"⟩, 29) := ⟨⟨by decide +kernel, by decide +kernel⟩, List.mem_of_getElem? (i := 508) (by decide +kernel), List.mem_of_getElem? (i := 666) (by decide +kernel), List.mem_of_getElem? (i := 667) (by decide +kernel)⟩
theorem lw_p51 : lw_okq (⟨"PassedTokenModel", "takeInt", "()I"⟩, 29) := ⟨⟨by decide +kernel, by decide +kernel⟩, List.mem_of_getElem? (i := 508) (by decide +kernel), List.mem_of_getElem? (i := 670) (by decide +kernel), List.mem_of_getElem? (i := 671) (by decide +kernel)⟩
theorem lw_p52 : lw_okq (⟨"PassedTokenModel", "isNext", "(I)Z"⟩, 29) := ⟨⟨by decide +kernel, by decide +kernel⟩, List.mem_of_getElem? (i := 508) (by decide +kernel), List.mem_of_getElem? (i := 674) (by decide +kernel), List.mem_of_getElem? (i := 675) (by decide +kernel)⟩
theorem lw_p53 : lw_okq (⟨"PassedTokenModel", "answerTo", "(IIIIIII)V"⟩, 29) := ⟨⟨by decide +kernel, by decide +kernel⟩, List.mem_of_getElem? (i := 508) (by decide +kernel), List.mem_of_getElem? (i := 678) (by decide +kernel), List.mem_of_getElem? (i := 679) (by decide +kernel)⟩
theorem lw_p54 : lw_okq (⟨"PassedTokenModel", "tell", "(IIIII)V"⟩, 29) := ⟨⟨by decide +kernel, by decide +kernel⟩, List.mem_of_getElem? (i := 508) (by decide +kernel), List.mem_of_getElem? (i := 689) (by decide +kernel), List.mem_of_getElem? (i := 690) (by decide +kernel)⟩
theorem lw_p55 : lw_okq (⟨"PassedTokenModel", "addInt", "(I)V"⟩, 29) := ⟨⟨by decide +kernel, by decide +kernel⟩, List.mem_of_getElem? (i := 508) (by decide +kernel), List.mem_of_getElem? (i := 693) (by decide +kernel), List.mem_of_getElem? (i := 694) (by decide +kernel)⟩
theorem lw_p56 : lw_okq (⟨"PassedTokenModel", "presentOf", "(I)I"⟩, 29) := ⟨⟨by decide +kernel, by decide +kernel⟩, List.mem_of_getElem? (i := 508) (by decide +kernel), List.mem_of_getElem? (i := 697) (by decide +kernel), List.mem_of_getElem? (i := 698) (by decide +kernel)⟩
theorem lw_p57 : lw_okq (⟨"PassedTokenModel", "addValue", "(II)V"⟩, 29) := ⟨⟨by decide +kernel, by decide +kernel⟩, List.mem_of_getElem? (i := 508) (by decide +kernel), List.mem_of_getElem? (i := 701) (by decide +kernel), List.mem_of_getElem? (i := 702) (by decide +kernel)⟩
theorem lw_p58 : lw_okq (⟨"PassedTokenModel", "use", "()Z"⟩, 29) := ⟨⟨by decide +kernel, by decide +kernel⟩, List.mem_of_getElem? (i := 508) (by decide +kernel), List.mem_of_getElem? (i := 705) (by decide +kernel), List.mem_of_getElem? (i := 706) (by decide +kernel)⟩
theorem lw_p59 : lw_okq (⟨"PassedTokenModel", "awaits", "()Z"⟩, 29) := ⟨⟨by decide +kernel, by decide +kernel⟩, List.mem_of_getElem? (i := 508) (by decide +kernel), List.mem_of_getElem? (i := 709) (by decide +kernel), List.mem_of_getElem? (i := 710) (by decide +kernel)⟩
theorem lw_p60 : lw_okq (⟨"PassedTokenModel", "done", "()Z"⟩, 29) := ⟨⟨by decide +kernel, by decide +kernel⟩, List.mem_of_getElem? (i := 508) (by decide +kernel), List.mem_of_getElem? (i := 713) (by decide +kernel), List.mem_of_getElem? (i := 714) (by decide +kernel)⟩
theorem lw_p61 : lw_okq (⟨"PassedTokenModel", "behind", "(I)I"⟩, 29) := ⟨⟨by decide +kernel, by decide +kernel⟩, List.mem_of_getElem? (i := 508) (by decide +kernel), List.mem_of_getElem? (i := 717) (by decide +kernel), List.mem_of_getElem? (i := 718) (by decide +kernel)⟩
theorem lw_p62 : lw_okq (⟨"PassedTokenModel", "poll", "(I)V"⟩, 29) := ⟨⟨by decide +kernel, by decide +kernel⟩, List.mem_of_getElem? (i := 508) (by decide +kernel), List.mem_of_getElem? (i := 721) (by decide +kernel), List.mem_of_getElem? (i := 722) (by decide +kernel)⟩
theorem lw_p63 : lw_okq (⟨"PassedTokenModel", "pass", "()V"⟩, 29) := ⟨⟨by decide +kernel, by decide +kernel⟩, List.mem_of_getElem? (i := 508) (by decide +kernel), List.mem_of_getElem? (i := 725) (by decide +kernel), List.mem_of_getElem? (i := 726) (by decide +kernel)⟩
def lw_privs_4 : List (MethodName × Nat) := [(⟨"PassedTokenModel", "add", "(I)V"⟩, 29), (⟨"PassedTokenModel", "expect", "(I)V"⟩, 29), (⟨"PassedTokenModel", "take", "()I"⟩, 29), (⟨"PassedTokenModel", "takeInt", "()I"⟩, 29), (⟨"PassedTokenModel", "isNext", "(I)Z"⟩, 29), (⟨"PassedTokenModel", "answerTo", "(IIIIIII)V"⟩, 29), (⟨"PassedTokenModel", "tell", "(IIIII)V"⟩, 29), (⟨"PassedTokenModel", "addInt", "(I)V"⟩, 29), (⟨"PassedTokenModel", "presentOf", "(I)I"⟩, 29), (⟨"PassedTokenModel", "addValue", "(II)V"⟩, 29), (⟨"PassedTokenModel", "use", "()Z"⟩, 29), (⟨"PassedTokenModel", "awaits", "()Z"⟩, 29), (⟨"PassedTokenModel", "done", "()Z"⟩, 29), (⟨"PassedTokenModel", "behind", "(I)I"⟩, 29), (⟨"PassedTokenModel", "poll", "(I)V"⟩, 29), (⟨"PassedTokenModel", "pass", "()V"⟩, 29)]
theorem lw_r4 : ∀ q ∈ lw_privs_4, lw_okq q := List.forall_mem_cons.mpr ⟨lw_p48, List.forall_mem_cons.mpr ⟨lw_p49, List.forall_mem_cons.mpr ⟨lw_p50, List.forall_mem_cons.mpr ⟨lw_p51, List.forall_mem_cons.mpr ⟨lw_p52, List.forall_mem_cons.mpr ⟨lw_p53, List.forall_mem_cons.mpr ⟨lw_p54, List.forall_mem_cons.mpr ⟨lw_p55, List.forall_mem_cons.mpr ⟨lw_p56, List.forall_mem_cons.mpr ⟨lw_p57, List.forall_mem_cons.mpr ⟨lw_p58, List.forall_mem_cons.mpr ⟨lw_p59, List.forall_mem_cons.mpr ⟨lw_p60, List.forall_mem_cons.mpr ⟨lw_p61, List.forall_mem_cons.mpr ⟨lw_p62, List.forall_mem_cons.mpr ⟨lw_p63, fun _ h => absurd h List.not_mem_nil⟩⟩⟩⟩⟩⟩⟩⟩⟩⟩⟩⟩⟩⟩⟩⟩
theorem lw_p64 : lw_okq (⟨"PassedTokenModel", "passing", "()Z"⟩, 29) := ⟨⟨by decide +kernel, by decide +kernel⟩, List.mem_of_getElem? (i := 508) (by decide +kernel), List.mem_of_getElem? (i := 729) (by decide +kernel), List.mem_of_getElem? (i := 730) (by decide +kernel)⟩
theorem lw_p65 : lw_okq (⟨"PassedTokenModel", "lost", "()Z"⟩, 29) := ⟨⟨by decide +kernel, by decide +kernel⟩, List.mem_of_getElem? (i := 508) (by decide +kernel), List.mem_of_getElem? (i := 733) (by decide +kernel), List.mem_of_getElem? (i := 734) (by decide +kernel)⟩
theorem lw_p66 : lw_okq (⟨"PassedTokenModel", "polling", "()Z"⟩, 29) := ⟨⟨by decide +kernel, by decide +kernel⟩, List.mem_of_getElem? (i := 508) (by decide +kernel), List.mem_of_getElem? (i := 737) (by decide +kernel), List.mem_of_getElem? (i := 738) (by decide +kernel)⟩
def lw_privs_5 : List (MethodName × Nat) := [(⟨"PassedTokenModel", "passing", "()Z"⟩, 29), (⟨"PassedTokenModel", "lost", "()Z"⟩, 29), (⟨"PassedTokenModel", "polling", "()Z"⟩, 29)]
theorem lw_r5 : ∀ q ∈ lw_privs_5, lw_okq q := List.forall_mem_cons.mpr ⟨lw_p64, List.forall_mem_cons.mpr ⟨lw_p65, List.forall_mem_cons.mpr ⟨lw_p66, fun _ h => absurd h List.not_mem_nil⟩⟩⟩
def lw_privs : List (MethodName × Nat) := lw_privs_1 ++ (lw_privs_2 ++ (lw_privs_3 ++ (lw_privs_4 ++ (lw_privs_5))))
def lw_tbl : List Cond := k2_sels lw_privs ++ tables_1
theorem lw_privs_ok : ∀ q ∈ lw_privs, lw_okq q := by
  show ∀ q ∈ lw_privs_1 ++ (lw_privs_2 ++ (lw_privs_3 ++ (lw_privs_4 ++ (lw_privs_5)))), lw_okq q
  exact List.forall_mem_append.mpr ⟨lw_r1, List.forall_mem_append.mpr ⟨lw_r2, List.forall_mem_append.mpr ⟨lw_r3, List.forall_mem_append.mpr ⟨lw_r4, lw_r5⟩⟩⟩⟩

def F_Row : u_T := fun k => match k with
  | 0 => ("PassedToken$Row", "bytes", "[I", true)
  | _ => ("PassedToken$Row", "count", "I", false)
def t_Row : Nat → FieldType := fun k => match k with
  | 0 => .array (.int)
  | _ => .int
theorem n_Row : ∀ a, a < 2 → ∀ b, b < 2 → a ≠ b → (F_Row a).2.1 ≠ (F_Row b).2.1 := by decide +kernel
theorem t_Row_ok : ∀ k, k < 2 → parseFieldDescriptor (F_Row k).2.2.1 = some (t_Row k) := by decide +kernel
def F_Thing : u_T := fun k => match k with
  | 0 => ("PassedToken$Thing", "reference", "I", true)
  | 1 => ("PassedToken$Thing", "binary", "Z", true)
  | 2 => ("PassedToken$Thing", "values", "[I", true)
  | _ => ("PassedToken$Thing", "given", "[Z", true)
def t_Thing : Nat → FieldType := fun k => match k with
  | 0 => .int
  | 1 => .boolean
  | 2 => .array (.int)
  | _ => .array (.boolean)
theorem n_Thing : ∀ a, a < 4 → ∀ b, b < 4 → a ≠ b → (F_Thing a).2.1 ≠ (F_Thing b).2.1 := by decide +kernel
theorem t_Thing_ok : ∀ k, k < 4 → parseFieldDescriptor (F_Thing k).2.2.1 = some (t_Thing k) := by decide +kernel
def F_Ear : u_T := fun k => match k with
  | 0 => ("PassedToken$Ear", "own", "I", true)
  | 1 => ("PassedToken$Ear", "header", "LPassedToken$Row;", true)
  | 2 => ("PassedToken$Ear", "data", "LPassedToken$Row;", true)
  | 3 => ("PassedToken$Ear", "stage", "I", false)
  | 4 => ("PassedToken$Ear", "check", "I", false)
  | _ => ("PassedToken$Ear", "lowCheck", "I", false)
def t_Ear : Nat → FieldType := fun k => match k with
  | 0 => .int
  | 1 => .object "PassedToken$Row"
  | 2 => .object "PassedToken$Row"
  | 3 => .int
  | 4 => .int
  | _ => .int
theorem n_Ear : ∀ a, a < 6 → ∀ b, b < 6 → a ≠ b → (F_Ear a).2.1 ≠ (F_Ear b).2.1 := by decide +kernel
theorem t_Ear_ok : ∀ k, k < 6 → parseFieldDescriptor (F_Ear k).2.2.1 = some (t_Ear k) := by decide +kernel
def F_Desk : u_T := fun k => match k with
  | 0 => ("PassedToken$Desk", "things", "[LPassedToken$Thing;", true)
  | 1 => ("PassedToken$Desk", "answer", "LPassedToken$Row;", true)
  | 2 => ("PassedToken$Desk", "asked", "LPassedToken$Row;", false)
  | 3 => ("PassedToken$Desk", "at", "I", false)
  | 4 => ("PassedToken$Desk", "id", "I", false)
  | 5 => ("PassedToken$Desk", "service", "I", false)
  | 6 => ("PassedToken$Desk", "reference", "I", false)
  | 7 => ("PassedToken$Desk", "asksFor", "LPassedToken$Thing;", false)
  | 8 => ("PassedToken$Desk", "property", "I", false)
  | 9 => ("PassedToken$Desk", "index", "I", false)
  | 10 => ("PassedToken$Desk", "writtenMark", "I", false)
  | 11 => ("PassedToken$Desk", "writtenValue", "I", false)
  | _ => ("PassedToken$Desk", "rank", "I", false)
def t_Desk : Nat → FieldType := fun k => match k with
  | 0 => .array (.object "PassedToken$Thing")
  | 1 => .object "PassedToken$Row"
  | 2 => .object "PassedToken$Row"
  | 3 => .int
  | 4 => .int
  | 5 => .int
  | 6 => .int
  | 7 => .object "PassedToken$Thing"
  | 8 => .int
  | 9 => .int
  | 10 => .int
  | 11 => .int
  | _ => .int
theorem n_Desk : ∀ a, a < 13 → ∀ b, b < 13 → a ≠ b → (F_Desk a).2.1 ≠ (F_Desk b).2.1 := by decide +kernel
theorem t_Desk_ok : ∀ k, k < 13 → parseFieldDescriptor (F_Desk k).2.2.1 = some (t_Desk k) := by decide +kernel
def F_PT : u_T := fun k => match k with
  | 0 => ("PassedToken", "own", "I", true)
  | 1 => ("PassedToken", "most", "I", true)
  | 2 => ("PassedToken", "ear", "LPassedToken$Ear;", true)
  | 3 => ("PassedToken", "out", "LPassedToken$Row;", true)
  | 4 => ("PassedToken", "noData", "LPassedToken$Row;", true)
  | 5 => ("PassedToken", "request", "LPassedToken$Row;", true)
  | 6 => ("PassedToken", "latestReply", "LPassedToken$Row;", true)
  | 7 => ("PassedToken", "desk", "LPassedToken$Desk;", true)
  | 8 => ("PassedToken", "mode", "I", false)
  | 9 => ("PassedToken", "next", "I", false)
  | 10 => ("PassedToken", "polled", "I", false)
  | 11 => ("PassedToken", "tokens", "I", false)
  | 12 => ("PassedToken", "tries", "I", false)
  | 13 => ("PassedToken", "sole", "Z", false)
  | 14 => ("PassedToken", "events", "I", false)
  | 15 => ("PassedToken", "stillness", "I", false)
  | 16 => ("PassedToken", "requestTo", "I", false)
  | _ => ("PassedToken", "requestWaits", "Z", false)
def t_PT : Nat → FieldType := fun k => match k with
  | 0 => .int
  | 1 => .int
  | 2 => .object "PassedToken$Ear"
  | 3 => .object "PassedToken$Row"
  | 4 => .object "PassedToken$Row"
  | 5 => .object "PassedToken$Row"
  | 6 => .object "PassedToken$Row"
  | 7 => .object "PassedToken$Desk"
  | 8 => .int
  | 9 => .int
  | 10 => .int
  | 11 => .int
  | 12 => .int
  | 13 => .boolean
  | 14 => .int
  | 15 => .int
  | 16 => .int
  | _ => .boolean
theorem n_PT : ∀ a, a < 18 → ∀ b, b < 18 → a ≠ b → (F_PT a).2.1 ≠ (F_PT b).2.1 := by decide +kernel
theorem t_PT_ok : ∀ k, k < 18 → parseFieldDescriptor (F_PT k).2.2.1 = some (t_PT k) := by decide +kernel
def F_Mod : u_T := fun k => match k with
  | 0 => ("PassedTokenModel", "own", "I", true)
  | 1 => ("PassedTokenModel", "most", "I", true)
  | 2 => ("PassedTokenModel", "silence", "I", false)
  | 3 => ("PassedTokenModel", "events", "I", false)
  | 4 => ("PassedTokenModel", "state", "I", false)
  | 5 => ("PassedTokenModel", "next", "I", false)
  | 6 => ("PassedTokenModel", "polled", "I", false)
  | 7 => ("PassedTokenModel", "tokens", "I", false)
  | 8 => ("PassedTokenModel", "tries", "I", false)
  | 9 => ("PassedTokenModel", "sole", "Z", false)
  | 10 => ("PassedTokenModel", "come", "I", false)
  | 11 => ("PassedTokenModel", "header", "[I", true)
  | 12 => ("PassedTokenModel", "data", "[I", true)
  | 13 => ("PassedTokenModel", "size", "I", false)
  | 14 => ("PassedTokenModel", "heard", "Z", false)
  | 15 => ("PassedTokenModel", "invalid", "Z", false)
  | 16 => ("PassedTokenModel", "out", "I", false)
  | 17 => ("PassedTokenModel", "sent", "[I", true)
  | 18 => ("PassedTokenModel", "answered", "I", false)
  | 19 => ("PassedTokenModel", "answer", "[I", true)
  | 20 => ("PassedTokenModel", "replied", "I", false)
  | 21 => ("PassedTokenModel", "reply", "[I", true)
  | 22 => ("PassedTokenModel", "asks", "Z", false)
  | 23 => ("PassedTokenModel", "askTo", "I", false)
  | 24 => ("PassedTokenModel", "request", "[I", true)
  | 25 => ("PassedTokenModel", "values", "[I", true)
  | 26 => ("PassedTokenModel", "given", "[Z", true)
  | 27 => ("PassedTokenModel", "at", "I", false)
  | _ => ("PassedTokenModel", "fine", "Z", false)
def t_Mod : Nat → FieldType := fun k => match k with
  | 0 => .int
  | 1 => .int
  | 2 => .int
  | 3 => .int
  | 4 => .int
  | 5 => .int
  | 6 => .int
  | 7 => .int
  | 8 => .int
  | 9 => .boolean
  | 10 => .int
  | 11 => .array (.int)
  | 12 => .array (.int)
  | 13 => .int
  | 14 => .boolean
  | 15 => .boolean
  | 16 => .int
  | 17 => .array (.int)
  | 18 => .int
  | 19 => .array (.int)
  | 20 => .int
  | 21 => .array (.int)
  | 22 => .boolean
  | 23 => .int
  | 24 => .array (.int)
  | 25 => .array (.int)
  | 26 => .array (.boolean)
  | 27 => .int
  | _ => .boolean
theorem n_Mod : ∀ a, a < 29 → ∀ b, b < 29 → a ≠ b → (F_Mod a).2.1 ≠ (F_Mod b).2.1 := by decide +kernel
theorem t_Mod_ok : ∀ k, k < 29 → parseFieldDescriptor (F_Mod k).2.2.1 = some (t_Mod k) := by decide +kernel
abbrev vC : List vw_C := [("PassedToken$Row", F_Row, 2), ("PassedToken$Thing", F_Thing, 4), ("PassedToken$Ear", F_Ear, 6), ("PassedToken$Desk", F_Desk, 13), ("PassedToken", F_PT, 18), ("PassedTokenModel", F_Mod, 29)]
abbrev b_PT_init : ByteArray := prog_1_method_1_code
abbrev y_PT_init : MethodName := ⟨"PassedToken", "<init>", "(II)V"⟩
abbrev cd_PT_init : Cond := .code y_PT_init b_PT_init 3 none
abbrev b_Row_init : ByteArray := prog_5_method_1_code
abbrev y_Row_init : MethodName := ⟨"PassedToken$Row", "<init>", "(I)V"⟩
abbrev cd_Row_init : Cond := .code y_Row_init b_Row_init 2 none
abbrev b_Desk_init : ByteArray := prog_3_method_1_code
abbrev y_Desk_init : MethodName := ⟨"PassedToken$Desk", "<init>", "()V"⟩
abbrev cd_Desk_init : Cond := .code y_Desk_init b_Desk_init 1 none
abbrev b_Thing_init : ByteArray := prog_6_method_1_code
abbrev y_Thing_init : MethodName := ⟨"PassedToken$Thing", "<init>", "(II)V"⟩
abbrev cd_Thing_init : Cond := .code y_Thing_init b_Thing_init 3 none
abbrev b_Ear_init : ByteArray := prog_4_method_1_code
abbrev y_Ear_init : MethodName := ⟨"PassedToken$Ear", "<init>", "(I)V"⟩
abbrev cd_Ear_init : Cond := .code y_Ear_init b_Ear_init 2 none
abbrev b_PT_hear : ByteArray := prog_1_method_2_code
abbrev y_PT_hear : MethodName := ⟨"PassedToken", "hear", "(I)I"⟩
abbrev cd_PT_hear : Cond := .code y_PT_hear b_PT_hear 2 (some FieldType.int)
abbrev b_PT_isByte : ByteArray := prog_1_method_12_code
abbrev y_PT_isByte : MethodName := ⟨"PassedToken", "isByte", "(I)Z"⟩
abbrev cd_PT_isByte : Cond := .code y_PT_isByte b_PT_isByte 1 (some FieldType.boolean)
abbrev b_Row_clear : ByteArray := prog_5_method_2_code
abbrev y_Row_clear : MethodName := ⟨"PassedToken$Row", "clear", "()V"⟩
abbrev cd_Row_clear : Cond := .code y_Row_clear b_Row_clear 1 none
abbrev b_Ear_take : ByteArray := prog_4_method_6_code
abbrev y_Ear_take : MethodName := ⟨"PassedToken$Ear", "take", "(I)I"⟩
abbrev cd_Ear_take : Cond := .code y_Ear_take b_Ear_take 2 (some FieldType.int)
abbrev b_Ear_takeSecond : ByteArray := prog_4_method_8_code
abbrev y_Ear_takeSecond : MethodName := ⟨"PassedToken$Ear", "takeSecond", "(I)V"⟩
abbrev cd_Ear_takeSecond : Cond := .code y_Ear_takeSecond b_Ear_takeSecond 2 none
abbrev b_Ear_takeHeader : ByteArray := prog_4_method_9_code
abbrev y_Ear_takeHeader : MethodName := ⟨"PassedToken$Ear", "takeHeader", "(I)V"⟩
abbrev cd_Ear_takeHeader : Cond := .code y_Ear_takeHeader b_Ear_takeHeader 2 none
abbrev b_Row_put : ByteArray := prog_5_method_5_code
abbrev y_Row_put : MethodName := ⟨"PassedToken$Row", "put", "(I)V"⟩
abbrev cd_Row_put : Cond := .code y_Row_put b_Row_put 2 none
abbrev b_Chk_withByte : ByteArray := prog_2_method_4_code
abbrev y_Chk_withByte : MethodName := ⟨"PassedToken$Check", "withByte", "(III)I"⟩
abbrev cd_Chk_withByte : Cond := .code y_Chk_withByte b_Chk_withByte 5 (some FieldType.int)
abbrev b_Row_size : ByteArray := prog_5_method_3_code
abbrev y_Row_size : MethodName := ⟨"PassedToken$Row", "size", "()I"⟩
abbrev cd_Row_size : Cond := .code y_Row_size b_Row_size 1 (some FieldType.int)
abbrev b_Ear_takeHeaderCheck : ByteArray := prog_4_method_10_code
abbrev y_Ear_takeHeaderCheck : MethodName := ⟨"PassedToken$Ear", "takeHeaderCheck", "(I)I"⟩
abbrev cd_Ear_takeHeaderCheck : Cond := .code y_Ear_takeHeaderCheck b_Ear_takeHeaderCheck 2 (some FieldType.int)
abbrev b_Ear_dataBytes : ByteArray := prog_4_method_13_code
abbrev y_Ear_dataBytes : MethodName := ⟨"PassedToken$Ear", "dataBytes", "()I"⟩
abbrev cd_Ear_dataBytes : Cond := .code y_Ear_dataBytes b_Ear_dataBytes 1 (some FieldType.int)
abbrev b_Row_at : ByteArray := prog_5_method_4_code
abbrev y_Row_at : MethodName := ⟨"PassedToken$Row", "at", "(I)I"⟩
abbrev cd_Row_at : Cond := .code y_Row_at b_Row_at 2 (some FieldType.int)
abbrev b_Ear_ended : ByteArray := prog_4_method_14_code
abbrev y_Ear_ended : MethodName := ⟨"PassedToken$Ear", "ended", "()I"⟩
abbrev cd_Ear_ended : Cond := .code y_Ear_ended b_Ear_ended 1 (some FieldType.int)
abbrev b_Ear_to : ByteArray := prog_4_method_3_code
abbrev y_Ear_to : MethodName := ⟨"PassedToken$Ear", "to", "()I"⟩
abbrev cd_Ear_to : Cond := .code y_Ear_to b_Ear_to 1 (some FieldType.int)
abbrev b_Ear_takeData : ByteArray := prog_4_method_11_code
abbrev y_Ear_takeData : MethodName := ⟨"PassedToken$Ear", "takeData", "(I)V"⟩
abbrev cd_Ear_takeData : Cond := .code y_Ear_takeData b_Ear_takeData 2 none
abbrev b_Ear_takeHighCheck : ByteArray := prog_4_method_12_code
abbrev y_Ear_takeHighCheck : MethodName := ⟨"PassedToken$Ear", "takeHighCheck", "(I)I"⟩
abbrev cd_Ear_takeHighCheck : Cond := .code y_Ear_takeHighCheck b_Ear_takeHighCheck 2 (some FieldType.int)
abbrev b_PT_settle : ByteArray := prog_1_method_15_code
abbrev y_PT_settle : MethodName := ⟨"PassedToken", "settle", "(I)V"⟩
abbrev cd_PT_settle : Cond := .code y_PT_settle b_PT_settle 5 none
abbrev b_PT_idleLine : ByteArray := prog_1_method_16_code
abbrev y_PT_idleLine : MethodName := ⟨"PassedToken", "idleLine", "(I)Z"⟩
abbrev cd_PT_idleLine : Cond := .code y_PT_idleLine b_PT_idleLine 2 (some FieldType.boolean)
abbrev b_Ear_type : ByteArray := prog_4_method_2_code
abbrev y_Ear_type : MethodName := ⟨"PassedToken$Ear", "type", "()I"⟩
abbrev cd_Ear_type : Cond := .code y_Ear_type b_Ear_type 1 (some FieldType.int)
abbrev b_Ear_from : ByteArray := prog_4_method_4_code
abbrev y_Ear_from : MethodName := ⟨"PassedToken$Ear", "from", "()I"⟩
abbrev cd_Ear_from : Cond := .code y_Ear_from b_Ear_from 1 (some FieldType.int)
abbrev b_PT_send : ByteArray := prog_1_method_28_code
abbrev y_PT_send : MethodName := ⟨"PassedToken", "send", "(IILPassedToken$Row;)V"⟩
abbrev cd_PT_send : Cond := .code y_PT_send b_PT_send 6 none
abbrev b_Chk_ofHeader : ByteArray := prog_2_method_2_code
abbrev y_Chk_ofHeader : MethodName := ⟨"PassedToken$Check", "ofHeader", "(LPassedToken$Row;I)I"⟩
abbrev cd_Chk_ofHeader : Cond := .code y_Chk_ofHeader b_Chk_ofHeader 4 (some FieldType.int)
abbrev b_Row_putAll : ByteArray := prog_5_method_7_code
abbrev y_Row_putAll : MethodName := ⟨"PassedToken$Row", "putAll", "(LPassedToken$Row;)V"⟩
abbrev cd_Row_putAll : Cond := .code y_Row_putAll b_Row_putAll 3 none
abbrev b_Chk_ofData : ByteArray := prog_2_method_3_code
abbrev y_Chk_ofData : MethodName := ⟨"PassedToken$Check", "ofData", "(LPassedToken$Row;)I"⟩
abbrev cd_Chk_ofData : Cond := .code y_Chk_ofData b_Chk_ofData 3 (some FieldType.int)
abbrev b_Ear_data : ByteArray := prog_4_method_5_code
abbrev y_Ear_data : MethodName := ⟨"PassedToken$Ear", "data", "()LPassedToken$Row;"⟩
abbrev cd_Ear_data : Cond := .code y_Ear_data b_Ear_data 1 (some (FieldType.object "PassedToken$Row"))
abbrev b_Desk_answerTo : ByteArray := prog_3_method_3_code
abbrev y_Desk_answerTo : MethodName := ⟨"PassedToken$Desk", "answerTo", "(LPassedToken$Row;)LPassedToken$Row;"⟩
abbrev cd_Desk_answerTo : Cond := .code y_Desk_answerTo b_Desk_answerTo 2 (some (FieldType.object "PassedToken$Row"))
abbrev b_Desk_isForDesk : ByteArray := prog_3_method_4_code
abbrev y_Desk_isForDesk : MethodName := ⟨"PassedToken$Desk", "isForDesk", "(LPassedToken$Row;)Z"⟩
abbrev cd_Desk_isForDesk : Cond := .code y_Desk_isForDesk b_Desk_isForDesk 1 (some FieldType.boolean)
abbrev b_Desk_begin : ByteArray := prog_3_method_6_code
abbrev y_Desk_begin : MethodName := ⟨"PassedToken$Desk", "begin", "(II)V"⟩
abbrev cd_Desk_begin : Cond := .code y_Desk_begin b_Desk_begin 3 none
abbrev b_Desk_takesPlace : ByteArray := prog_3_method_7_code
abbrev y_Desk_takesPlace : MethodName := ⟨"PassedToken$Desk", "takesPlace", "()Z"⟩
abbrev cd_Desk_takesPlace : Cond := .code y_Desk_takesPlace b_Desk_takesPlace 1 (some FieldType.boolean)
abbrev b_Desk_follows : ByteArray := prog_3_method_9_code
abbrev y_Desk_follows : MethodName := ⟨"PassedToken$Desk", "follows", "(I)Z"⟩
abbrev cd_Desk_follows : Cond := .code y_Desk_follows b_Desk_follows 2 (some FieldType.boolean)
abbrev b_Desk_nextInt : ByteArray := prog_3_method_11_code
abbrev y_Desk_nextInt : MethodName := ⟨"PassedToken$Desk", "nextInt", "()I"⟩
abbrev cd_Desk_nextInt : Cond := .code y_Desk_nextInt b_Desk_nextInt 3 (some FieldType.int)
abbrev b_Desk_nextByte : ByteArray := prog_3_method_10_code
abbrev y_Desk_nextByte : MethodName := ⟨"PassedToken$Desk", "nextByte", "()I"⟩
abbrev cd_Desk_nextByte : Cond := .code y_Desk_nextByte b_Desk_nextByte 2 (some FieldType.int)
abbrev b_Desk_takesWritten : ByteArray := prog_3_method_8_code
abbrev y_Desk_takesWritten : MethodName := ⟨"PassedToken$Desk", "takesWritten", "()Z"⟩
abbrev cd_Desk_takesWritten : Cond := .code y_Desk_takesWritten b_Desk_takesWritten 1 (some FieldType.boolean)
abbrev b_Desk_answerWellFormed : ByteArray := prog_3_method_5_code
abbrev y_Desk_answerWellFormed : MethodName := ⟨"PassedToken$Desk", "answerWellFormed", "()V"⟩
abbrev cd_Desk_answerWellFormed : Cond := .code y_Desk_answerWellFormed b_Desk_answerWellFormed 2 none
abbrev b_Desk_thingOf : ByteArray := prog_3_method_12_code
abbrev y_Desk_thingOf : MethodName := ⟨"PassedToken$Desk", "thingOf", "(I)LPassedToken$Thing;"⟩
abbrev cd_Desk_thingOf : Cond := .code y_Desk_thingOf b_Desk_thingOf 3 (some (FieldType.object "PassedToken$Thing"))
abbrev b_Thing_reference : ByteArray := prog_6_method_2_code
abbrev y_Thing_reference : MethodName := ⟨"PassedToken$Thing", "reference", "()I"⟩
abbrev cd_Thing_reference : Cond := .code y_Thing_reference b_Thing_reference 1 (some FieldType.int)
abbrev b_Desk_fault : ByteArray := prog_3_method_13_code
abbrev y_Desk_fault : MethodName := ⟨"PassedToken$Desk", "fault", "()I"⟩
abbrev cd_Desk_fault : Cond := .code y_Desk_fault b_Desk_fault 1 (some FieldType.int)
abbrev b_Desk_faultOfWrite : ByteArray := prog_3_method_14_code
abbrev y_Desk_faultOfWrite : MethodName := ⟨"PassedToken$Desk", "faultOfWrite", "()I"⟩
abbrev cd_Desk_faultOfWrite : Cond := .code y_Desk_faultOfWrite b_Desk_faultOfWrite 1 (some FieldType.int)
abbrev b_Thing_isBinary : ByteArray := prog_6_method_3_code
abbrev y_Thing_isBinary : MethodName := ⟨"PassedToken$Thing", "isBinary", "()Z"⟩
abbrev cd_Thing_isBinary : Cond := .code y_Thing_isBinary b_Thing_isBinary 1 (some FieldType.boolean)
abbrev b_Thing_takes : ByteArray := prog_6_method_6_code
abbrev y_Thing_takes : MethodName := ⟨"PassedToken$Thing", "takes", "(I)Z"⟩
abbrev cd_Thing_takes : Cond := .code y_Thing_takes b_Thing_takes 2 (some FieldType.boolean)
abbrev b_Desk_write : ByteArray := prog_3_method_15_code
abbrev y_Desk_write : MethodName := ⟨"PassedToken$Desk", "write", "()V"⟩
abbrev cd_Desk_write : Cond := .code y_Desk_write b_Desk_write 1 none
abbrev b_Thing_takeAway : ByteArray := prog_6_method_8_code
abbrev y_Thing_takeAway : MethodName := ⟨"PassedToken$Thing", "takeAway", "(I)Z"⟩
abbrev cd_Thing_takeAway : Cond := .code y_Thing_takeAway b_Thing_takeAway 2 (some FieldType.boolean)
abbrev b_Thing_give : ByteArray := prog_6_method_7_code
abbrev y_Thing_give : MethodName := ⟨"PassedToken$Thing", "give", "(II)Z"⟩
abbrev cd_Thing_give : Cond := .code y_Thing_give b_Thing_give 3 (some FieldType.boolean)
abbrev b_Desk_tellPlace : ByteArray := prog_3_method_16_code
abbrev y_Desk_tellPlace : MethodName := ⟨"PassedToken$Desk", "tellPlace", "()V"⟩
abbrev cd_Desk_tellPlace : Cond := .code y_Desk_tellPlace b_Desk_tellPlace 1 none
abbrev b_Row_putInt : ByteArray := prog_5_method_6_code
abbrev y_Row_putInt : MethodName := ⟨"PassedToken$Row", "putInt", "(I)V"⟩
abbrev cd_Row_putInt : Cond := .code y_Row_putInt b_Row_putInt 2 none
abbrev b_Desk_tellProperty : ByteArray := prog_3_method_17_code
abbrev y_Desk_tellProperty : MethodName := ⟨"PassedToken$Desk", "tellProperty", "()V"⟩
abbrev cd_Desk_tellProperty : Cond := .code y_Desk_tellProperty b_Desk_tellProperty 1 none
abbrev b_Thing_isGiven : ByteArray := prog_6_method_4_code
abbrev y_Thing_isGiven : MethodName := ⟨"PassedToken$Thing", "isGiven", "(I)Z"⟩
abbrev cd_Thing_isGiven : Cond := .code y_Thing_isGiven b_Thing_isGiven 2 (some FieldType.boolean)
abbrev b_Desk_valueRead : ByteArray := prog_3_method_18_code
abbrev y_Desk_valueRead : MethodName := ⟨"PassedToken$Desk", "valueRead", "()I"⟩
abbrev cd_Desk_valueRead : Cond := .code y_Desk_valueRead b_Desk_valueRead 1 (some FieldType.int)
abbrev b_Thing_shown : ByteArray := prog_6_method_9_code
abbrev y_Thing_shown : MethodName := ⟨"PassedToken$Thing", "shown", "()I"⟩
abbrev cd_Thing_shown : Cond := .code y_Thing_shown b_Thing_shown 2 (some FieldType.int)
abbrev b_Thing_valueOf : ByteArray := prog_6_method_5_code
abbrev y_Thing_valueOf : MethodName := ⟨"PassedToken$Thing", "valueOf", "(I)I"⟩
abbrev cd_Thing_valueOf : Cond := .code y_Thing_valueOf b_Thing_valueOf 2 (some FieldType.int)
abbrev b_PT_sendAnswer : ByteArray := prog_1_method_27_code
abbrev y_PT_sendAnswer : MethodName := ⟨"PassedToken", "sendAnswer", "(LPassedToken$Row;)V"⟩
abbrev cd_PT_sendAnswer : Cond := .code y_PT_sendAnswer b_PT_sendAnswer 2 none
abbrev b_PT_useLine : ByteArray := prog_1_method_17_code
abbrev y_PT_useLine : MethodName := ⟨"PassedToken", "useLine", "()Z"⟩
abbrev cd_PT_useLine : Cond := .code y_PT_useLine b_PT_useLine 1 (some FieldType.boolean)
abbrev b_PT_waitLine : ByteArray := prog_1_method_18_code
abbrev y_PT_waitLine : MethodName := ⟨"PassedToken", "waitLine", "(I)Z"⟩
abbrev cd_PT_waitLine : Cond := .code y_PT_waitLine b_PT_waitLine 2 (some FieldType.boolean)
abbrev b_PT_endsWaiting : ByteArray := prog_1_method_19_code
abbrev y_PT_endsWaiting : MethodName := ⟨"PassedToken", "endsWaiting", "()Z"⟩
abbrev cd_PT_endsWaiting : Cond := .code y_PT_endsWaiting b_PT_endsWaiting 1 (some FieldType.boolean)
abbrev b_PT_doneLine : ByteArray := prog_1_method_20_code
abbrev y_PT_doneLine : MethodName := ⟨"PassedToken", "doneLine", "()Z"⟩
abbrev cd_PT_doneLine : Cond := .code y_PT_doneLine b_PT_doneLine 1 (some FieldType.boolean)
abbrev b_PT_behind : ByteArray := prog_1_method_14_code
abbrev y_PT_behind : MethodName := ⟨"PassedToken", "behind", "(I)I"⟩
abbrev cd_PT_behind : Cond := .code y_PT_behind b_PT_behind 2 (some FieldType.int)
abbrev b_PT_poll : ByteArray := prog_1_method_25_code
abbrev y_PT_poll : MethodName := ⟨"PassedToken", "poll", "(I)V"⟩
abbrev cd_PT_poll : Cond := .code y_PT_poll b_PT_poll 2 none
abbrev b_PT_pass : ByteArray := prog_1_method_26_code
abbrev y_PT_pass : MethodName := ⟨"PassedToken", "pass", "(I)V"⟩
abbrev cd_PT_pass : Cond := .code y_PT_pass b_PT_pass 2 none
abbrev b_PT_passingLine : ByteArray := prog_1_method_21_code
abbrev y_PT_passingLine : MethodName := ⟨"PassedToken", "passingLine", "()Z"⟩
abbrev cd_PT_passingLine : Cond := .code y_PT_passingLine b_PT_passingLine 1 (some FieldType.boolean)
abbrev b_PT_lostLine : ByteArray := prog_1_method_22_code
abbrev y_PT_lostLine : MethodName := ⟨"PassedToken", "lostLine", "()Z"⟩
abbrev cd_PT_lostLine : Cond := .code y_PT_lostLine b_PT_lostLine 1 (some FieldType.boolean)
abbrev b_PT_answeredLine : ByteArray := prog_1_method_23_code
abbrev y_PT_answeredLine : MethodName := ⟨"PassedToken", "answeredLine", "()Z"⟩
abbrev cd_PT_answeredLine : Cond := .code y_PT_answeredLine b_PT_answeredLine 1 (some FieldType.boolean)
abbrev b_PT_isOtherStation : ByteArray := prog_1_method_13_code
abbrev y_PT_isOtherStation : MethodName := ⟨"PassedToken", "isOtherStation", "(I)Z"⟩
abbrev cd_PT_isOtherStation : Cond := .code y_PT_isOtherStation b_PT_isOtherStation 2 (some FieldType.boolean)
abbrev b_PT_unansweredLine : ByteArray := prog_1_method_24_code
abbrev y_PT_unansweredLine : MethodName := ⟨"PassedToken", "unansweredLine", "(I)Z"⟩
abbrev cd_PT_unansweredLine : Cond := .code y_PT_unansweredLine b_PT_unansweredLine 2 (some FieldType.boolean)
abbrev b_PT_quiet : ByteArray := prog_1_method_3_code
abbrev y_PT_quiet : MethodName := ⟨"PassedToken", "quiet", "(I)I"⟩
abbrev cd_PT_quiet : Cond := .code y_PT_quiet b_PT_quiet 3 (some FieldType.int)
abbrev b_Ear_rest : ByteArray := prog_4_method_7_code
abbrev y_Ear_rest : MethodName := ⟨"PassedToken$Ear", "rest", "(I)I"⟩
abbrev cd_Ear_rest : Cond := .code y_Ear_rest b_Ear_rest 2 (some FieldType.int)
abbrev b_PT_sent : ByteArray := prog_1_method_4_code
abbrev y_PT_sent : MethodName := ⟨"PassedToken", "sent", "(I)I"⟩
abbrev cd_PT_sent : Cond := .code y_PT_sent b_PT_sent 2 (some FieldType.int)
abbrev b_PT_ask : ByteArray := prog_1_method_5_code
abbrev y_PT_ask : MethodName := ⟨"PassedToken", "ask", "(IIIII)Z"⟩
abbrev cd_PT_ask : Cond := .code y_PT_ask b_PT_ask 6 (some FieldType.boolean)
abbrev b_PT_replied : ByteArray := prog_1_method_6_code
abbrev y_PT_replied : MethodName := ⟨"PassedToken", "replied", "()I"⟩
abbrev cd_PT_replied : Cond := .code y_PT_replied b_PT_replied 1 (some FieldType.int)
abbrev b_PT_reply : ByteArray := prog_1_method_7_code
abbrev y_PT_reply : MethodName := ⟨"PassedToken", "reply", "(I)I"⟩
abbrev cd_PT_reply : Cond := .code y_PT_reply b_PT_reply 2 (some FieldType.int)
abbrev b_PT_state : ByteArray := prog_1_method_8_code
abbrev y_PT_state : MethodName := ⟨"PassedToken", "state", "()I"⟩
abbrev cd_PT_state : Cond := .code y_PT_state b_PT_state 1 (some FieldType.int)
abbrev b_PT_silence : ByteArray := prog_1_method_9_code
abbrev y_PT_silence : MethodName := ⟨"PassedToken", "silence", "()I"⟩
abbrev cd_PT_silence : Cond := .code y_PT_silence b_PT_silence 1 (some FieldType.int)
abbrev b_PT_set : ByteArray := prog_1_method_10_code
abbrev y_PT_set : MethodName := ⟨"PassedToken", "set", "(IIIZ)Z"⟩
abbrev cd_PT_set : Cond := .code y_PT_set b_PT_set 6 (some FieldType.boolean)
abbrev b_Desk_thing : ByteArray := prog_3_method_2_code
abbrev y_Desk_thing : MethodName := ⟨"PassedToken$Desk", "thing", "(I)LPassedToken$Thing;"⟩
abbrev cd_Desk_thing : Cond := .code y_Desk_thing b_Desk_thing 2 (some (FieldType.object "PassedToken$Thing"))
abbrev b_PT_present : ByteArray := prog_1_method_11_code
abbrev y_PT_present : MethodName := ⟨"PassedToken", "present", "(I)I"⟩
abbrev cd_PT_present : Cond := .code y_PT_present b_PT_present 3 (some FieldType.int)
abbrev b_Law_cell : ByteArray := method_2_code
abbrev y_Law_cell : MethodName := ⟨"PassedTokenLaw", "cell", "([II)I"⟩
abbrev cd_Law_cell : Cond := .code y_Law_cell b_Law_cell 2 (some FieldType.int)
abbrev b_Mod_init : ByteArray := prog_8_method_1_code
abbrev y_Mod_init : MethodName := ⟨"PassedTokenModel", "<init>", "(II)V"⟩
abbrev cd_Mod_init : Cond := .code y_Mod_init b_Mod_init 3 none
abbrev b_Mod_hear : ByteArray := prog_8_method_36_code
abbrev y_Mod_hear : MethodName := ⟨"PassedTokenModel", "hear", "(I)I"⟩
abbrev cd_Mod_hear : Cond := .code y_Mod_hear b_Mod_hear 2 (some FieldType.int)
abbrev b_Mod_listen : ByteArray := prog_8_method_9_code
abbrev y_Mod_listen : MethodName := ⟨"PassedTokenModel", "listen", "(I)V"⟩
abbrev cd_Mod_listen : Cond := .code y_Mod_listen b_Mod_listen 2 none
abbrev b_Mod_endHeader : ByteArray := prog_8_method_10_code
abbrev y_Mod_endHeader : MethodName := ⟨"PassedTokenModel", "endHeader", "()V"⟩
abbrev cd_Mod_endHeader : Cond := .code y_Mod_endHeader b_Mod_endHeader 3 none
abbrev b_Mod_headerStep : ByteArray := prog_8_method_3_code
abbrev y_Mod_headerStep : MethodName := ⟨"PassedTokenModel", "headerStep", "(II)I"⟩
abbrev cd_Mod_headerStep : Cond := .code y_Mod_headerStep b_Mod_headerStep 4 (some FieldType.int)
abbrev b_Mod_isForMe : ByteArray := prog_8_method_12_code
abbrev y_Mod_isForMe : MethodName := ⟨"PassedTokenModel", "isForMe", "()Z"⟩
abbrev cd_Mod_isForMe : Cond := .code y_Mod_isForMe b_Mod_isForMe 1 (some FieldType.boolean)
abbrev b_Mod_endData : ByteArray := prog_8_method_11_code
abbrev y_Mod_endData : MethodName := ⟨"PassedTokenModel", "endData", "()V"⟩
abbrev cd_Mod_endData : Cond := .code y_Mod_endData b_Mod_endData 3 none
abbrev b_Mod_dataStep : ByteArray := prog_8_method_4_code
abbrev y_Mod_dataStep : MethodName := ⟨"PassedTokenModel", "dataStep", "(II)I"⟩
abbrev cd_Mod_dataStep : Cond := .code y_Mod_dataStep b_Mod_dataStep 4 (some FieldType.int)
abbrev b_Mod_settle : ByteArray := prog_8_method_13_code
abbrev y_Mod_settle : MethodName := ⟨"PassedTokenModel", "settle", "()V"⟩
abbrev cd_Mod_settle : Cond := .code y_Mod_settle b_Mod_settle 2 none
abbrev b_Mod_step : ByteArray := prog_8_method_14_code
abbrev y_Mod_step : MethodName := ⟨"PassedTokenModel", "step", "()Z"⟩
abbrev cd_Mod_step : Cond := .code y_Mod_step b_Mod_step 1 (some FieldType.boolean)
abbrev b_Mod_idle : ByteArray := prog_8_method_15_code
abbrev y_Mod_idle : MethodName := ⟨"PassedTokenModel", "idle", "()Z"⟩
abbrev cd_Mod_idle : Cond := .code y_Mod_idle b_Mod_idle 3 (some FieldType.boolean)
abbrev b_Mod_send : ByteArray := prog_8_method_6_code
abbrev y_Mod_send : MethodName := ⟨"PassedTokenModel", "send", "(III)V"⟩
abbrev cd_Mod_send : Cond := .code y_Mod_send b_Mod_send 7 none
abbrev b_Mod_put : ByteArray := prog_8_method_5_code
abbrev y_Mod_put : MethodName := ⟨"PassedTokenModel", "put", "(I)V"⟩
abbrev cd_Mod_put : Cond := .code y_Mod_put b_Mod_put 2 none
abbrev b_Mod_makeAnswer : ByteArray := prog_8_method_31_code
abbrev y_Mod_makeAnswer : MethodName := ⟨"PassedTokenModel", "makeAnswer", "()V"⟩
abbrev cd_Mod_makeAnswer : Cond := .code y_Mod_makeAnswer b_Mod_makeAnswer 9 none
abbrev b_Mod_reject : ByteArray := prog_8_method_32_code
abbrev y_Mod_reject : MethodName := ⟨"PassedTokenModel", "reject", "(II)V"⟩
abbrev cd_Mod_reject : Cond := .code y_Mod_reject b_Mod_reject 3 none
abbrev b_Mod_add : ByteArray := prog_8_method_24_code
abbrev y_Mod_add : MethodName := ⟨"PassedTokenModel", "add", "(I)V"⟩
abbrev cd_Mod_add : Cond := .code y_Mod_add b_Mod_add 2 none
abbrev b_Mod_expect : ByteArray := prog_8_method_28_code
abbrev y_Mod_expect : MethodName := ⟨"PassedTokenModel", "expect", "(I)V"⟩
abbrev cd_Mod_expect : Cond := .code y_Mod_expect b_Mod_expect 3 none
abbrev b_Mod_take : ByteArray := prog_8_method_27_code
abbrev y_Mod_take : MethodName := ⟨"PassedTokenModel", "take", "()I"⟩
abbrev cd_Mod_take : Cond := .code y_Mod_take b_Mod_take 1 (some FieldType.int)
abbrev b_Mod_takeInt : ByteArray := prog_8_method_30_code
abbrev y_Mod_takeInt : MethodName := ⟨"PassedTokenModel", "takeInt", "()I"⟩
abbrev cd_Mod_takeInt : Cond := .code y_Mod_takeInt b_Mod_takeInt 3 (some FieldType.int)
abbrev b_Mod_isNext : ByteArray := prog_8_method_29_code
abbrev y_Mod_isNext : MethodName := ⟨"PassedTokenModel", "isNext", "(I)Z"⟩
abbrev cd_Mod_isNext : Cond := .code y_Mod_isNext b_Mod_isNext 2 (some FieldType.boolean)
abbrev b_Mod_answerTo : ByteArray := prog_8_method_33_code
abbrev y_Mod_answerTo : MethodName := ⟨"PassedTokenModel", "answerTo", "(IIIIIII)V"⟩
abbrev cd_Mod_answerTo : Cond := .code y_Mod_answerTo b_Mod_answerTo 11 none
abbrev b_Mod_thingOf : ByteArray := prog_8_method_22_code
abbrev y_Mod_thingOf : MethodName := ⟨"PassedTokenModel", "thingOf", "(I)I"⟩
abbrev cd_Mod_thingOf : Cond := .code y_Mod_thingOf b_Mod_thingOf 3 (some FieldType.int)
abbrev b_Mod_wrong : ByteArray := prog_8_method_34_code
abbrev y_Mod_wrong : MethodName := ⟨"PassedTokenModel", "wrong", "(IIIII)I"⟩
abbrev cd_Mod_wrong : Cond := .code y_Mod_wrong b_Mod_wrong 6 (some FieldType.int)
abbrev b_Mod_tell : ByteArray := prog_8_method_35_code
abbrev y_Mod_tell : MethodName := ⟨"PassedTokenModel", "tell", "(IIIII)V"⟩
abbrev cd_Mod_tell : Cond := .code y_Mod_tell b_Mod_tell 6 none
abbrev b_Mod_addInt : ByteArray := prog_8_method_25_code
abbrev y_Mod_addInt : MethodName := ⟨"PassedTokenModel", "addInt", "(I)V"⟩
abbrev cd_Mod_addInt : Cond := .code y_Mod_addInt b_Mod_addInt 3 none
abbrev b_Mod_presentOf : ByteArray := prog_8_method_23_code
abbrev y_Mod_presentOf : MethodName := ⟨"PassedTokenModel", "presentOf", "(I)I"⟩
abbrev cd_Mod_presentOf : Cond := .code y_Mod_presentOf b_Mod_presentOf 4 (some FieldType.int)
abbrev b_Mod_addValue : ByteArray := prog_8_method_26_code
abbrev y_Mod_addValue : MethodName := ⟨"PassedTokenModel", "addValue", "(II)V"⟩
abbrev cd_Mod_addValue : Cond := .code y_Mod_addValue b_Mod_addValue 3 none
abbrev b_Mod_use : ByteArray := prog_8_method_16_code
abbrev y_Mod_use : MethodName := ⟨"PassedTokenModel", "use", "()Z"⟩
abbrev cd_Mod_use : Cond := .code y_Mod_use b_Mod_use 2 (some FieldType.boolean)
abbrev b_Mod_awaits : ByteArray := prog_8_method_17_code
abbrev y_Mod_awaits : MethodName := ⟨"PassedTokenModel", "awaits", "()Z"⟩
abbrev cd_Mod_awaits : Cond := .code y_Mod_awaits b_Mod_awaits 3 (some FieldType.boolean)
abbrev b_Mod_done : ByteArray := prog_8_method_18_code
abbrev y_Mod_done : MethodName := ⟨"PassedTokenModel", "done", "()Z"⟩
abbrev cd_Mod_done : Cond := .code y_Mod_done b_Mod_done 1 (some FieldType.boolean)
abbrev b_Mod_behind : ByteArray := prog_8_method_2_code
abbrev y_Mod_behind : MethodName := ⟨"PassedTokenModel", "behind", "(I)I"⟩
abbrev cd_Mod_behind : Cond := .code y_Mod_behind b_Mod_behind 2 (some FieldType.int)
abbrev b_Mod_poll : ByteArray := prog_8_method_7_code
abbrev y_Mod_poll : MethodName := ⟨"PassedTokenModel", "poll", "(I)V"⟩
abbrev cd_Mod_poll : Cond := .code y_Mod_poll b_Mod_poll 2 none
abbrev b_Mod_pass : ByteArray := prog_8_method_8_code
abbrev y_Mod_pass : MethodName := ⟨"PassedTokenModel", "pass", "()V"⟩
abbrev cd_Mod_pass : Cond := .code y_Mod_pass b_Mod_pass 1 none
abbrev b_Mod_passing : ByteArray := prog_8_method_19_code
abbrev y_Mod_passing : MethodName := ⟨"PassedTokenModel", "passing", "()Z"⟩
abbrev cd_Mod_passing : Cond := .code y_Mod_passing b_Mod_passing 1 (some FieldType.boolean)
abbrev b_Mod_lost : ByteArray := prog_8_method_20_code
abbrev y_Mod_lost : MethodName := ⟨"PassedTokenModel", "lost", "()Z"⟩
abbrev cd_Mod_lost : Cond := .code y_Mod_lost b_Mod_lost 1 (some FieldType.boolean)
abbrev b_Mod_polling : ByteArray := prog_8_method_21_code
abbrev y_Mod_polling : MethodName := ⟨"PassedTokenModel", "polling", "()Z"⟩
abbrev cd_Mod_polling : Cond := .code y_Mod_polling b_Mod_polling 3 (some FieldType.boolean)
abbrev b_Mod_quiet : ByteArray := prog_8_method_37_code
abbrev y_Mod_quiet : MethodName := ⟨"PassedTokenModel", "quiet", "(I)I"⟩
abbrev cd_Mod_quiet : Cond := .code y_Mod_quiet b_Mod_quiet 3 (some FieldType.int)
abbrev b_Mod_sent : ByteArray := prog_8_method_38_code
abbrev y_Mod_sent : MethodName := ⟨"PassedTokenModel", "sent", "(I)I"⟩
abbrev cd_Mod_sent : Cond := .code y_Mod_sent b_Mod_sent 2 (some FieldType.int)
abbrev b_Mod_ask : ByteArray := prog_8_method_39_code
abbrev y_Mod_ask : MethodName := ⟨"PassedTokenModel", "ask", "(IIIII)Z"⟩
abbrev cd_Mod_ask : Cond := .code y_Mod_ask b_Mod_ask 8 (some FieldType.boolean)
abbrev b_Mod_replied : ByteArray := prog_8_method_40_code
abbrev y_Mod_replied : MethodName := ⟨"PassedTokenModel", "replied", "()I"⟩
abbrev cd_Mod_replied : Cond := .code y_Mod_replied b_Mod_replied 1 (some FieldType.int)
abbrev b_Mod_reply : ByteArray := prog_8_method_41_code
abbrev y_Mod_reply : MethodName := ⟨"PassedTokenModel", "reply", "(I)I"⟩
abbrev cd_Mod_reply : Cond := .code y_Mod_reply b_Mod_reply 2 (some FieldType.int)
abbrev b_Mod_state : ByteArray := prog_8_method_42_code
abbrev y_Mod_state : MethodName := ⟨"PassedTokenModel", "state", "()I"⟩
abbrev cd_Mod_state : Cond := .code y_Mod_state b_Mod_state 1 (some FieldType.int)
abbrev b_Mod_silence : ByteArray := prog_8_method_43_code
abbrev y_Mod_silence : MethodName := ⟨"PassedTokenModel", "silence", "()I"⟩
abbrev cd_Mod_silence : Cond := .code y_Mod_silence b_Mod_silence 1 (some FieldType.int)
abbrev b_Mod_set : ByteArray := prog_8_method_44_code
abbrev y_Mod_set : MethodName := ⟨"PassedTokenModel", "set", "(IIIZ)Z"⟩
abbrev cd_Mod_set : Cond := .code y_Mod_set b_Mod_set 5 (some FieldType.boolean)
abbrev b_Mod_present : ByteArray := prog_8_method_45_code
abbrev y_Mod_present : MethodName := ⟨"PassedTokenModel", "present", "(I)I"⟩
abbrev cd_Mod_present : Cond := .code y_Mod_present b_Mod_present 2 (some FieldType.int)
