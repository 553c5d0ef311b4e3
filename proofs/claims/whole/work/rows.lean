section
-- ===== PART A: goes FIRST, ahead of the names: the tables' words, and 'selects' of the private methods out of them =====
/-- a private method of a class that the tables say can be made, by its rows of tables_1 -/
def lw_okq (q : MethodName × Nat) : Prop := (q.1.cls ≠ "java/lang/invoke/MethodHandle" ∧ q.1.cls ≠ "java/lang/invoke/VarHandle") ∧ Cond.instantiable q.1.cls q.2 ∈ tables_1 ∧ Cond.privateMethod q.1 ∈ tables_1 ∧ Cond.instanceMethod q.1 ∈ tables_1
theorem lw_p0 : lw_okq (⟨"PassedToken$Ear", "takeSecond", "(I)V"⟩, 6) := ⟨⟨by decide +kernel, by decide +kernel⟩, List.mem_of_getElem? (i := 108) (by decide +kernel), List.mem_of_getElem? (i := 205) (by decide +kernel), List.mem_of_getElem? (i := 206) (by decide +kernel)⟩
theorem lw_p1 : lw_okq (⟨"PassedToken$Ear", "takeHeader", "(I)V"⟩, 6) := ⟨⟨by decide +kernel, by decide +kernel⟩, List.mem_of_getElem? (i := 108) (by decide +kernel), List.mem_of_getElem? (i := 210) (by decide +kernel), List.mem_of_getElem? (i := 211) (by decide +kernel)⟩
theorem lw_p2 : lw_okq (⟨"PassedToken$Ear", "takeHeaderCheck", "(I)I"⟩, 6) := ⟨⟨by decide +kernel, by decide +kernel⟩, List.mem_of_getElem? (i := 108) (by decide +kernel), List.mem_of_getElem? (i := 225) (by decide +kernel), List.mem_of_getElem? (i := 226) (by decide +kernel)⟩
theorem lw_p3 : lw_okq (⟨"PassedToken$Ear", "dataBytes", "()I"⟩, 6) := ⟨⟨by decide +kernel, by decide +kernel⟩, List.mem_of_getElem? (i := 108) (by decide +kernel), List.mem_of_getElem? (i := 229) (by decide +kernel), List.mem_of_getElem? (i := 230) (by decide +kernel)⟩
theorem lw_p4 : lw_okq (⟨"PassedToken$Ear", "ended", "()I"⟩, 6) := ⟨⟨by decide +kernel, by decide +kernel⟩, List.mem_of_getElem? (i := 108) (by decide +kernel), List.mem_of_getElem? (i := 237) (by decide +kernel), List.mem_of_getElem? (i := 238) (by decide +kernel)⟩
theorem lw_p5 : lw_okq (⟨"PassedToken$Ear", "takeData", "(I)V"⟩, 6) := ⟨⟨by decide +kernel, by decide +kernel⟩, List.mem_of_getElem? (i := 108) (by decide +kernel), List.mem_of_getElem? (i := 246) (by decide +kernel), List.mem_of_getElem? (i := 247) (by decide +kernel)⟩
theorem lw_p6 : lw_okq (⟨"PassedToken$Ear", "takeHighCheck", "(I)I"⟩, 6) := ⟨⟨by decide +kernel, by decide +kernel⟩, List.mem_of_getElem? (i := 108) (by decide +kernel), List.mem_of_getElem? (i := 251) (by decide +kernel), List.mem_of_getElem? (i := 252) (by decide +kernel)⟩
theorem lw_p7 : lw_okq (⟨"PassedToken", "settle", "(I)V"⟩, 18) := ⟨⟨by decide +kernel, by decide +kernel⟩, List.mem_of_getElem? (i := 10) (by decide +kernel), List.mem_of_getElem? (i := 255) (by decide +kernel), List.mem_of_getElem? (i := 256) (by decide +kernel)⟩
theorem lw_p8 : lw_okq (⟨"PassedToken", "idleLine", "(I)Z"⟩, 18) := ⟨⟨by decide +kernel, by decide +kernel⟩, List.mem_of_getElem? (i := 10) (by decide +kernel), List.mem_of_getElem? (i := 259) (by decide +kernel), List.mem_of_getElem? (i := 260) (by decide +kernel)⟩
theorem lw_p9 : lw_okq (⟨"PassedToken", "send", "(IILPassedToken$Row;)V"⟩, 18) := ⟨⟨by decide +kernel, by decide +kernel⟩, List.mem_of_getElem? (i := 10) (by decide +kernel), List.mem_of_getElem? (i := 272) (by decide +kernel), List.mem_of_getElem? (i := 273) (by decide +kernel)⟩
theorem lw_p10 : lw_okq (⟨"PassedToken$Desk", "begin", "(II)V"⟩, 13) := ⟨⟨by decide +kernel, by decide +kernel⟩, List.mem_of_getElem? (i := 32) (by decide +kernel), List.mem_of_getElem? (i := 308) (by decide +kernel), List.mem_of_getElem? (i := 309) (by decide +kernel)⟩
theorem lw_p11 : lw_okq (⟨"PassedToken$Desk", "takesPlace", "()Z"⟩, 13) := ⟨⟨by decide +kernel, by decide +kernel⟩, List.mem_of_getElem? (i := 32) (by decide +kernel), List.mem_of_getElem? (i := 313) (by decide +kernel), List.mem_of_getElem? (i := 314) (by decide +kernel)⟩
theorem lw_p12 : lw_okq (⟨"PassedToken$Desk", "follows", "(I)Z"⟩, 13) := ⟨⟨by decide +kernel, by decide +kernel⟩, List.mem_of_getElem? (i := 32) (by decide +kernel), List.mem_of_getElem? (i := 317) (by decide +kernel), List.mem_of_getElem? (i := 318) (by decide +kernel)⟩
theorem lw_p13 : lw_okq (⟨"PassedToken$Desk", "nextInt", "()I"⟩, 13) := ⟨⟨by decide +kernel, by decide +kernel⟩, List.mem_of_getElem? (i := 32) (by decide +kernel), List.mem_of_getElem? (i := 321) (by decide +kernel), List.mem_of_getElem? (i := 322) (by decide +kernel)⟩
theorem lw_p14 : lw_okq (⟨"PassedToken$Desk", "nextByte", "()I"⟩, 13) := ⟨⟨by decide +kernel, by decide +kernel⟩, List.mem_of_getElem? (i := 32) (by decide +kernel), List.mem_of_getElem? (i := 325) (by decide +kernel), List.mem_of_getElem? (i := 326) (by decide +kernel)⟩
theorem lw_p15 : lw_okq (⟨"PassedToken$Desk", "takesWritten", "()Z"⟩, 13) := ⟨⟨by decide +kernel, by decide +kernel⟩, List.mem_of_getElem? (i := 32) (by decide +kernel), List.mem_of_getElem? (i := 329) (by decide +kernel), List.mem_of_getElem? (i := 330) (by decide +kernel)⟩
def lw_privs_1 : List (MethodName × Nat) := [(⟨"PassedToken$Ear", "takeSecond", "(I)V"⟩, 6), (⟨"PassedToken$Ear", "takeHeader", "(I)V"⟩, 6), (⟨"PassedToken$Ear", "takeHeaderCheck", "(I)I"⟩, 6), (⟨"PassedToken$Ear", "dataBytes", "()I"⟩, 6), (⟨"PassedToken$Ear", "ended", "()I"⟩, 6), (⟨"PassedToken$Ear", "takeData", "(I)V"⟩, 6), (⟨"PassedToken$Ear", "takeHighCheck", "(I)I"⟩, 6), (⟨"PassedToken", "settle", "(I)V"⟩, 18), (⟨"PassedToken", "idleLine", "(I)Z"⟩, 18), (⟨"PassedToken", "send", "(IILPassedToken$Row;)V"⟩, 18), (⟨"PassedToken$Desk", "begin", "(II)V"⟩, 13), (⟨"PassedToken$Desk", "takesPlace", "()Z"⟩, 13), (⟨"PassedToken$Desk", "follows", "(I)Z"⟩, 13), (⟨"PassedToken$Desk", "nextInt", "()I"⟩, 13), (⟨"PassedToken$Desk", "nextByte", "()I"⟩, 13), (⟨"PassedToken$Desk", "takesWritten", "()Z"⟩, 13)]
theorem lw_r1 : ∀ q ∈ lw_privs_1, lw_okq q := List.forall_mem_cons.mpr ⟨lw_p0, List.forall_mem_cons.mpr ⟨lw_p1, List.forall_mem_cons.mpr ⟨lw_p2, List.forall_mem_cons.mpr ⟨lw_p3, List.forall_mem_cons.mpr ⟨lw_p4, List.forall_mem_cons.mpr ⟨lw_p5, List.forall_mem_cons.mpr ⟨lw_p6, List.forall_mem_cons.mpr ⟨lw_p7, List.forall_mem_cons.mpr ⟨lw_p8, List.forall_mem_cons.mpr ⟨lw_p9, List.forall_mem_cons.mpr ⟨lw_p10, List.forall_mem_cons.mpr ⟨lw_p11, List.forall_mem_cons.mpr ⟨lw_p12, List.forall_mem_cons.mpr ⟨lw_p13, List.forall_mem_cons.mpr ⟨lw_p14, List.forall_mem_cons.mpr ⟨lw_p15, fun _ h => absurd h List.not_mem_nil⟩⟩⟩⟩⟩⟩⟩⟩⟩⟩⟩⟩⟩⟩⟩⟩
theorem lw_p16 : lw_okq (⟨"PassedToken$Desk", "answerWellFormed", "()V"⟩, 13) := ⟨⟨by decide +kernel, by decide +kernel⟩, List.mem_of_getElem? (i := 32) (by decide +kernel), List.mem_of_getElem? (i := 333) (by decide +kernel), List.mem_of_getElem? (i := 334) (by decide +kernel)⟩
theorem lw_p17 : lw_okq (⟨"PassedToken$Desk", "thingOf", "(I)LPassedToken$Thing;"⟩, 13) := ⟨⟨by decide +kernel, by decide +kernel⟩, List.mem_of_getElem? (i := 32) (by decide +kernel), List.mem_of_getElem? (i := 337) (by decide +kernel), List.mem_of_getElem? (i := 338) (by decide +kernel)⟩
theorem lw_p18 : lw_okq (⟨"PassedToken$Desk", "fault", "()I"⟩, 13) := ⟨⟨by decide +kernel, by decide +kernel⟩, List.mem_of_getElem? (i := 32) (by decide +kernel), List.mem_of_getElem? (i := 345) (by decide +kernel), List.mem_of_getElem? (i := 346) (by decide +kernel)⟩
theorem lw_p19 : lw_okq (⟨"PassedToken$Desk", "faultOfWrite", "()I"⟩, 13) := ⟨⟨by decide +kernel, by decide +kernel⟩, List.mem_of_getElem? (i := 32) (by decide +kernel), List.mem_of_getElem? (i := 349) (by decide +kernel), List.mem_of_getElem? (i := 350) (by decide +kernel)⟩
theorem lw_p20 : lw_okq (⟨"PassedToken$Desk", "write", "()V"⟩, 13) := ⟨⟨by decide +kernel, by decide +kernel⟩, List.mem_of_getElem? (i := 32) (by decide +kernel), List.mem_of_getElem? (i := 361) (by decide +kernel), List.mem_of_getElem? (i := 362) (by decide +kernel)⟩
theorem lw_p21 : lw_okq (⟨"PassedToken$Desk", "tellPlace", "()V"⟩, 13) := ⟨⟨by decide +kernel, by decide +kernel⟩, List.mem_of_getElem? (i := 32) (by decide +kernel), List.mem_of_getElem? (i := 374) (by decide +kernel), List.mem_of_getElem? (i := 375) (by decide +kernel)⟩
theorem lw_p22 : lw_okq (⟨"PassedToken$Desk", "tellProperty", "()V"⟩, 13) := ⟨⟨by decide +kernel, by decide +kernel⟩, List.mem_of_getElem? (i := 32) (by decide +kernel), List.mem_of_getElem? (i := 382) (by decide +kernel), List.mem_of_getElem? (i := 383) (by decide +kernel)⟩
theorem lw_p23 : lw_okq (⟨"PassedToken$Desk", "valueRead", "()I"⟩, 13) := ⟨⟨by decide +kernel, by decide +kernel⟩, List.mem_of_getElem? (i := 32) (by decide +kernel), List.mem_of_getElem? (i := 390) (by decide +kernel), List.mem_of_getElem? (i := 391) (by decide +kernel)⟩
theorem lw_p24 : lw_okq (⟨"PassedToken", "sendAnswer", "(LPassedToken$Row;)V"⟩, 18) := ⟨⟨by decide +kernel, by decide +kernel⟩, List.mem_of_getElem? (i := 10) (by decide +kernel), List.mem_of_getElem? (i := 402) (by decide +kernel), List.mem_of_getElem? (i := 403) (by decide +kernel)⟩
theorem lw_p25 : lw_okq (⟨"PassedToken", "useLine", "()Z"⟩, 18) := ⟨⟨by decide +kernel, by decide +kernel⟩, List.mem_of_getElem? (i := 10) (by decide +kernel), List.mem_of_getElem? (i := 406) (by decide +kernel), List.mem_of_getElem? (i := 407) (by decide +kernel)⟩
theorem lw_p26 : lw_okq (⟨"PassedToken", "waitLine", "(I)Z"⟩, 18) := ⟨⟨by decide +kernel, by decide +kernel⟩, List.mem_of_getElem? (i := 10) (by decide +kernel), List.mem_of_getElem? (i := 410) (by decide +kernel), List.mem_of_getElem? (i := 411) (by decide +kernel)⟩
theorem lw_p27 : lw_okq (⟨"PassedToken", "endsWaiting", "()Z"⟩, 18) := ⟨⟨by decide +kernel, by decide +kernel⟩, List.mem_of_getElem? (i := 10) (by decide +kernel), List.mem_of_getElem? (i := 414) (by decide +kernel), List.mem_of_getElem? (i := 415) (by decide +kernel)⟩
theorem lw_p28 : lw_okq (⟨"PassedToken", "doneLine", "()Z"⟩, 18) := ⟨⟨by decide +kernel, by decide +kernel⟩, List.mem_of_getElem? (i := 10) (by decide +kernel), List.mem_of_getElem? (i := 418) (by decide +kernel), List.mem_of_getElem? (i := 419) (by decide +kernel)⟩
theorem lw_p29 : lw_okq (⟨"PassedToken", "behind", "(I)I"⟩, 18) := ⟨⟨by decide +kernel, by decide +kernel⟩, List.mem_of_getElem? (i := 10) (by decide +kernel), List.mem_of_getElem? (i := 422) (by decide +kernel), List.mem_of_getElem? (i := 423) (by decide +kernel)⟩
theorem lw_p30 : lw_okq (⟨"PassedToken", "poll", "(I)V"⟩, 18) := ⟨⟨by decide +kernel, by decide +kernel⟩, List.mem_of_getElem? (i := 10) (by decide +kernel), List.mem_of_getElem? (i := 426) (by decide +kernel), List.mem_of_getElem? (i := 427) (by decide +kernel)⟩
theorem lw_p31 : lw_okq (⟨"PassedToken", "pass", "(I)V"⟩, 18) := ⟨⟨by decide +kernel, by decide +kernel⟩, List.mem_of_getElem? (i := 10) (by decide +kernel), List.mem_of_getElem? (i := 430) (by decide +kernel), List.mem_of_getElem? (i := 431) (by decide +kernel)⟩
def lw_privs_2 : List (MethodName × Nat) := [(⟨"PassedToken$Desk", "answerWellFormed", "()V"⟩, 13), (⟨"PassedToken$Desk", "thingOf", "(I)LPassedToken$Thing;"⟩, 13), (⟨"PassedToken$Desk", "fault", "()I"⟩, 13), (⟨"PassedToken$Desk", "faultOfWrite", "()I"⟩, 13), (⟨"PassedToken$Desk", "write", "()V"⟩, 13), (⟨"PassedToken$Desk", "tellPlace", "()V"⟩, 13), (⟨"PassedToken$Desk", "tellProperty", "()V"⟩, 13), (⟨"PassedToken$Desk", "valueRead", "()I"⟩, 13), (⟨"PassedToken", "sendAnswer", "(LPassedToken$Row;)V"⟩, 18), (⟨"PassedToken", "useLine", "()Z"⟩, 18), (⟨"PassedToken", "waitLine", "(I)Z"⟩, 18), (⟨"PassedToken", "endsWaiting", "()Z"⟩, 18), (⟨"PassedToken", "doneLine", "()Z"⟩, 18), (⟨"PassedToken", "behind", "(I)I"⟩, 18), (⟨"PassedToken", "poll", "(I)V"⟩, 18), (⟨"PassedToken", "pass", "(I)V"⟩, 18)]
theorem lw_r2 : ∀ q ∈ lw_privs_2, lw_okq q := List.forall_mem_cons.mpr ⟨lw_p16, List.forall_mem_cons.mpr ⟨lw_p17, List.forall_mem_cons.mpr ⟨lw_p18, List.forall_mem_cons.mpr ⟨lw_p19, List.forall_mem_cons.mpr ⟨lw_p20, List.forall_mem_cons.mpr ⟨lw_p21, List.forall_mem_cons.mpr ⟨lw_p22, List.forall_mem_cons.mpr ⟨lw_p23, List.forall_mem_cons.mpr ⟨lw_p24, List.forall_mem_cons.mpr ⟨lw_p25, List.forall_mem_cons.mpr ⟨lw_p26, List.forall_mem_cons.mpr ⟨lw_p27, List.forall_mem_cons.mpr ⟨lw_p28, List.forall_mem_cons.mpr ⟨lw_p29, List.forall_mem_cons.mpr ⟨lw_p30, List.forall_mem_cons.mpr ⟨lw_p31, fun _ h => absurd h List.not_mem_nil⟩⟩⟩⟩⟩⟩⟩⟩⟩⟩⟩⟩⟩⟩⟩⟩
theorem lw_p32 : lw_okq (⟨"PassedToken", "passingLine", "()Z"⟩, 18) := ⟨⟨by decide +kernel, by decide +kernel⟩, List.mem_of_getElem? (i := 10) (by decide +kernel), List.mem_of_getElem? (i := 434) (by decide +kernel), List.mem_of_getElem? (i := 435) (by decide +kernel)⟩
theorem lw_p33 : lw_okq (⟨"PassedToken", "lostLine", "()Z"⟩, 18) := ⟨⟨by decide +kernel, by decide +kernel⟩, List.mem_of_getElem? (i := 10) (by decide +kernel), List.mem_of_getElem? (i := 438) (by decide +kernel), List.mem_of_getElem? (i := 439) (by decide +kernel)⟩
theorem lw_p34 : lw_okq (⟨"PassedToken", "answeredLine", "()Z"⟩, 18) := ⟨⟨by decide +kernel, by decide +kernel⟩, List.mem_of_getElem? (i := 10) (by decide +kernel), List.mem_of_getElem? (i := 442) (by decide +kernel), List.mem_of_getElem? (i := 443) (by decide +kernel)⟩
theorem lw_p35 : lw_okq (⟨"PassedToken", "isOtherStation", "(I)Z"⟩, 18) := ⟨⟨by decide +kernel, by decide +kernel⟩, List.mem_of_getElem? (i := 10) (by decide +kernel), List.mem_of_getElem? (i := 446) (by decide +kernel), List.mem_of_getElem? (i := 447) (by decide +kernel)⟩
theorem lw_p36 : lw_okq (⟨"PassedToken", "unansweredLine", "(I)Z"⟩, 18) := ⟨⟨by decide +kernel, by decide +kernel⟩, List.mem_of_getElem? (i := 10) (by decide +kernel), List.mem_of_getElem? (i := 450) (by decide +kernel), List.mem_of_getElem? (i := 451) (by decide +kernel)⟩
theorem lw_p37 : lw_okq (⟨"PassedTokenModel", "listen", "(I)V"⟩, 29) := ⟨⟨by decide +kernel, by decide +kernel⟩, List.mem_of_getElem? (i := 508) (by decide +kernel), List.mem_of_getElem? (i := 606) (by decide +kernel), List.mem_of_getElem? (i := 607) (by decide +kernel)⟩
theorem lw_p38 : lw_okq (⟨"PassedTokenModel", "endHeader", "()V"⟩, 29) := ⟨⟨by decide +kernel, by decide +kernel⟩, List.mem_of_getElem? (i := 508) (by decide +kernel), List.mem_of_getElem? (i := 610) (by decide +kernel), List.mem_of_getElem? (i := 611) (by decide +kernel)⟩
theorem lw_p39 : lw_okq (⟨"PassedTokenModel", "isForMe", "()Z"⟩, 29) := ⟨⟨by decide +kernel, by decide +kernel⟩, List.mem_of_getElem? (i := 508) (by decide +kernel), List.mem_of_getElem? (i := 617) (by decide +kernel), List.mem_of_getElem? (i := 618) (by decide +kernel)⟩
theorem lw_p40 : lw_okq (⟨"PassedTokenModel", "endData", "()V"⟩, 29) := ⟨⟨by decide +kernel, by decide +kernel⟩, List.mem_of_getElem? (i := 508) (by decide +kernel), List.mem_of_getElem? (i := 621) (by decide +kernel), List.mem_of_getElem? (i := 622) (by decide +kernel)⟩
theorem lw_p41 : lw_okq (⟨"PassedTokenModel", "settle", "()V"⟩, 29) := ⟨⟨by decide +kernel, by decide +kernel⟩, List.mem_of_getElem? (i := 508) (by decide +kernel), List.mem_of_getElem? (i := 630) (by decide +kernel), List.mem_of_getElem? (i := 631) (by decide +kernel)⟩
theorem lw_p42 : lw_okq (⟨"PassedTokenModel", "step", "()Z"⟩, 29) := ⟨⟨by decide +kernel, by decide +kernel⟩, List.mem_of_getElem? (i := 508) (by decide +kernel), List.mem_of_getElem? (i := 634) (by decide +kernel), List.mem_of_getElem? (i := 635) (by decide +kernel)⟩
theorem lw_p43 : lw_okq (⟨"PassedTokenModel", "idle", "()Z"⟩, 29) := ⟨⟨by decide +kernel, by decide +kernel⟩, List.mem_of_getElem? (i := 508) (by decide +kernel), List.mem_of_getElem? (i := 638) (by decide +kernel), List.mem_of_getElem? (i := 639) (by decide +kernel)⟩
theorem lw_p44 : lw_okq (⟨"PassedTokenModel", "send", "(III)V"⟩, 29) := ⟨⟨by decide +kernel, by decide +kernel⟩, List.mem_of_getElem? (i := 508) (by decide +kernel), List.mem_of_getElem? (i := 642) (by decide +kernel), List.mem_of_getElem? (i := 643) (by decide +kernel)⟩
theorem lw_p45 : lw_okq (⟨"PassedTokenModel", "put", "(I)V"⟩, 29) := ⟨⟨by decide +kernel, by decide +kernel⟩, List.mem_of_getElem? (i := 508) (by decide +kernel), List.mem_of_getElem? (i := 646) (by decide +kernel), List.mem_of_getElem? (i := 647) (by decide +kernel)⟩
theorem lw_p46 : lw_okq (⟨"PassedTokenModel", "makeAnswer", "()V"⟩, 29) := ⟨⟨by decide +kernel, by decide +kernel⟩, List.mem_of_getElem? (i := 508) (by decide +kernel), List.mem_of_getElem? (i := 650) (by decide +kernel), List.mem_of_getElem? (i := 651) (by decide +kernel)⟩
theorem lw_p47 : lw_okq (⟨"PassedTokenModel", "reject", "(II)V"⟩, 29) := ⟨⟨by decide +kernel, by decide +kernel⟩, List.mem_of_getElem? (i := 508) (by decide +kernel), List.mem_of_getElem? (i := 654) (by decide +kernel), List.mem_of_getElem? (i := 655) (by decide +kernel)⟩
def lw_privs_3 : List (MethodName × Nat) := [(⟨"PassedToken", "passingLine", "()Z"⟩, 18), (⟨"PassedToken", "lostLine", "()Z"⟩, 18), (⟨"PassedToken", "answeredLine", "()Z"⟩, 18), (⟨"PassedToken", "isOtherStation", "(I)Z"⟩, 18), (⟨"PassedToken", "unansweredLine", "(I)Z"⟩, 18), (⟨"PassedTokenModel", "listen", "(I)V"⟩, 29), (⟨"PassedTokenModel", "endHeader", "()V"⟩, 29), (⟨"PassedTokenModel", "isForMe", "()Z"⟩, 29), (⟨"PassedTokenModel", "endData", "()V"⟩, 29), (⟨"PassedTokenModel", "settle", "()V"⟩, 29), (⟨"PassedTokenModel", "step", "()Z"⟩, 29), (⟨"PassedTokenModel", "idle", "()Z"⟩, 29), (⟨"PassedTokenModel", "send", "(III)V"⟩, 29), (⟨"PassedTokenModel", "put", "(I)V"⟩, 29), (⟨"PassedTokenModel", "makeAnswer", "()V"⟩, 29), (⟨"PassedTokenModel", "reject", "(II)V"⟩, 29)]
theorem lw_r3 : ∀ q ∈ lw_privs_3, lw_okq q := List.forall_mem_cons.mpr ⟨lw_p32, List.forall_mem_cons.mpr ⟨lw_p33, List.forall_mem_cons.mpr ⟨lw_p34, List.forall_mem_cons.mpr ⟨lw_p35, List.forall_mem_cons.mpr ⟨lw_p36, List.forall_mem_cons.mpr ⟨lw_p37, List.forall_mem_cons.mpr ⟨lw_p38, List.forall_mem_cons.mpr ⟨lw_p39, List.forall_mem_cons.mpr ⟨lw_p40, List.forall_mem_cons.mpr ⟨lw_p41, List.forall_mem_cons.mpr ⟨lw_p42, List.forall_mem_cons.mpr ⟨lw_p43, List.forall_mem_cons.mpr ⟨lw_p44, List.forall_mem_cons.mpr ⟨lw_p45, List.forall_mem_cons.mpr ⟨lw_p46, List.forall_mem_cons.mpr ⟨lw_p47, fun _ h => absurd h List.not_mem_nil⟩⟩⟩⟩⟩⟩⟩⟩⟩⟩⟩⟩⟩⟩⟩⟩
theorem lw_p48 : lw_okq (⟨"PassedTokenModel", "add", "(I)V"⟩, 29) := ⟨⟨by decide +kernel, by decide +kernel⟩, List.mem_of_getElem? (i := 508) (by decide +kernel), List.mem_of_getElem? (i := 658) (by decide +kernel), List.mem_of_getElem? (i := 659) (by decide +kernel)⟩
theorem lw_p49 : lw_okq (⟨"PassedTokenModel", "expect", "(I)V"⟩, 29) := ⟨⟨by decide +kernel, by decide +kernel⟩, List.mem_of_getElem? (i := 508) (by decide +kernel), List.mem_of_getElem? (i := 662) (by decide +kernel), List.mem_of_getElem? (i := 663) (by decide +kernel)⟩
theorem lw_p50 : lw_okq (⟨"PassedTokenModel", "take", "()I"⟩, 29) := ⟨⟨by decide +kernel, by decide +kernel⟩, List.mem_of_getElem? (i := 508) (by decide +kernel), List.mem_of_getElem? (i := 666) (by decide +kernel), List.mem_of_getElem? (i := 667) (by decide +kernel)⟩
theorem lw_p51 : lw_okq (⟨"PassedTokenModel", "takeInt", "()I"⟩, 29) := ⟨⟨by decide +kernel, by decide +kernel⟩, List.mem_of_getElem? (i := 508) (by decide +kernel), List.mem_of_getElem? (i := 670) (by decide +kernel), List.mem_of_getElem? (i := 671) (by decide +kernel)⟩
theorem lw_p52 : lw_okq (⟨"PassedTokenModel", "isNext", "(I)Z"⟩, 29) := ⟨⟨by decide +kernel, by decide +kernel⟩, List.mem_of_getElem? (i := 508) (by decide +kernel), List.mem_of_getElem? (i := 674) (by decide +kernel), List.mem_of_getElem? (i := 675) (by decide +kernel)⟩
theorem lw_p53 : lw_okq (⟨"PassedTokenModel", "answerTo", "(IIIIIII)V"⟩, 29) := ⟨⟨by decide +kernel, by decide +kernel⟩, List.mem_of_getElem? (i := 508) (by decide +kernel), List.mem_of_getElem? (i := 678) (by decide +kernel), List.mem_of_getElem? (i := 679) (by decide +kernel)⟩
theorem lw_p54 : lw_okq (⟨"PassedTokenModel", "tell", "(IIIII)V"⟩, 29) := ⟨⟨by decide +kernel, by decide +kernel⟩, List.mem_of_getElem? (i := 508) (by decide +kernel), List.mem_of_getElem? (i := 689) (by decide +kernel), List.mem_of_getElem? (i := 690) (by decide +kernel)⟩
theorem lw_p55 : lw_okq (⟨"PassedTokenModel", "addInt", "(I)V"⟩, 29) := ⟨⟨by decide +kernel, by decide +kernel⟩, List.mem_of_getElem? (i := 508) (by decide +kernel), List.mem_of_getElem? (i := 693) (by decide +kernel), List.mem_of_getElem? (i := 694) (by decide +kernel)⟩
theorem lw_p56 : lw_okq (⟨"PassedTokenModel", "presentOf", "(I)I"⟩, 29) := ⟨⟨by decide +kernel, by decide +kernel⟩, List.mem_of_getElem? (i := 508) (by decide +kernel), List.mem_of_getElem? (i := 697) (by decide +kernel), List.mem_of_getElem? (i := 698) (by decide +kernel)⟩
theorem lw_p57 : lw_okq (⟨"PassedTokenModel", "addValue", "(II)V"⟩, 29) := ⟨⟨by decide +kernel, by decide +kernel⟩, List.mem_of_getElem? (i := 508) (by decide +kernel), List.mem_of_getElem? (i := 701) (by decide +kernel), List.mem_of_getElem? (i := 702) (by decide +kernel)⟩
theorem lw_p58 : lw_okq (⟨"PassedTokenModel", "use", "()Z"⟩, 29) := ⟨⟨by decide +kernel, by decide +kernel⟩, List.mem_of_getElem? (i := 508) (by decide +kernel), List.mem_of_getElem? (i := 705) (by decide +kernel), List.mem_of_getElem? (i := 706) (by decide +kernel)⟩
theorem lw_p59 : lw_okq (⟨"PassedTokenModel", "awaits", "()Z"⟩, 29) := ⟨⟨by decide +kernel, by decide +kernel⟩, List.mem_of_getElem? (i := 508) (by decide +kernel), List.mem_of_getElem? (i := 709) (by decide +kernel), List.mem_of_getElem? (i := 710) (by decide +kernel)⟩
theorem lw_p60 : lw_okq (⟨"PassedTokenModel", "done", "()Z"⟩, 29) := ⟨⟨by decide +kernel, by decide +kernel⟩, List.mem_of_getElem? (i := 508) (by decide +kernel), List.mem_of_getElem? (i := 713) (by decide +kernel), List.mem_of_getElem? (i := 714) (by decide +kernel)⟩
theorem lw_p61 : lw_okq (⟨"PassedTokenModel", "behind", "(I)I"⟩, 29) := ⟨⟨by decide +kernel, by decide +kernel⟩, List.mem_of_getElem? (i := 508) (by decide +kernel), List.mem_of_getElem? (i := 717) (by decide +kernel), List.mem_of_getElem? (i := 718) (by decide +kernel)⟩
theorem lw_p62 : lw_okq (⟨"PassedTokenModel", "poll", "(I)V"⟩, 29) := ⟨⟨by decide +kernel, by decide +kernel⟩, List.mem_of_getElem? (i := 508) (by decide +kernel), List.mem_of_getElem? (i := 721) (by decide +kernel), List.mem_of_getElem? (i := 722) (by decide +kernel)⟩
theorem lw_p63 : lw_okq (⟨"PassedTokenModel", "pass", "()V"⟩, 29) := ⟨⟨by decide +kernel, by decide +kernel⟩, List.mem_of_getElem? (i := 508) (by decide +kernel), List.mem_of_getElem? (i := 725) (by decide +kernel), List.mem_of_getElem? (i := 726) (by decide +kernel)⟩
def lw_privs_4 : List (MethodName × Nat) := [(⟨"PassedTokenModel", "add", "(I)V"⟩, 29), (⟨"PassedTokenModel", "expect", "(I)V"⟩, 29), (⟨"PassedTokenModel", "take", "()I"⟩, 29), (⟨"PassedTokenModel", "takeInt", "()I"⟩, 29), (⟨"PassedTokenModel", "isNext", "(I)Z"⟩, 29), (⟨"PassedTokenModel", "answerTo", "(IIIIIII)V"⟩, 29), (⟨"PassedTokenModel", "tell", "(IIIII)V"⟩, 29), (⟨"PassedTokenModel", "addInt", "(I)V"⟩, 29), (⟨"PassedTokenModel", "presentOf", "(I)I"⟩, 29), (⟨"PassedTokenModel", "addValue", "(II)V"⟩, 29), (⟨"PassedTokenModel", "use", "()Z"⟩, 29), (⟨"PassedTokenModel", "awaits", "()Z"⟩, 29), (⟨"PassedTokenModel", "done", "()Z"⟩, 29), (⟨"PassedTokenModel", "behind", "(I)I"⟩, 29), (⟨"PassedTokenModel", "poll", "(I)V"⟩, 29), (⟨"PassedTokenModel", "pass", "()V"⟩, 29)]
theorem lw_r4 : ∀ q ∈ lw_privs_4, lw_okq q := List.forall_mem_cons.mpr ⟨lw_p48, List.forall_mem_cons.mpr ⟨lw_p49, List.forall_mem_cons.mpr ⟨lw_p50, List.forall_mem_cons.mpr ⟨lw_p51, List.forall_mem_cons.mpr ⟨lw_p52, List.forall_mem_cons.mpr ⟨lw_p53, List.forall_mem_cons.mpr ⟨lw_p54, List.forall_mem_cons.mpr ⟨lw_p55, List.forall_mem_cons.mpr ⟨lw_p56, List.forall_mem_cons.mpr ⟨lw_p57, List.forall_mem_cons.mpr ⟨lw_p58, List.forall_mem_cons.mpr ⟨lw_p59, List.forall_mem_cons.mpr ⟨lw_p60, List.forall_mem_cons.mpr ⟨lw_p61, List.forall_mem_cons.mpr ⟨lw_p62, List.forall_mem_cons.mpr ⟨lw_p63, fun _ h => absurd h List.not_mem_nil⟩⟩⟩⟩⟩⟩⟩⟩⟩⟩⟩⟩⟩⟩⟩⟩
theorem lw_p64 : lw_okq (⟨"PassedTokenModel", "passing", "()Z"⟩, 29) := ⟨⟨by decide +kernel, by decide +kernel⟩, List.mem_of_getElem? (i := 508) (by decide +kernel), List.mem_of_getElem? (i := 729) (by decide +kernel), List.mem_of_getElem? (i := 730) (by decide +kernel)⟩
theorem lw_p65 : lw_okq (⟨"PassedTokenModel", "lost", "()Z"⟩, 29) := ⟨⟨by decide +kernel, by decide +kernel⟩, List.mem_of_getElem? (i := 508) (by decide +kernel), List.mem_of_getElem? (i := 733) (by decide +kernel), List.mem_of_getElem? (i := 734) (by decide +kernel)⟩
theorem lw_p66 : lw_okq (⟨"PassedTokenModel", "polling", "()Z"⟩, 29) := ⟨⟨by decide +kernel, by decide +kernel⟩, List.mem_of_getElem? (i := 508) (by decide +kernel), List.mem_of_getElem? (i := 737) (by decide +kernel), List.mem_of_getElem? (i := 738) (by decide +kernel)⟩
def lw_privs_5 : List (MethodName × Nat) := [(⟨"PassedTokenModel", "passing", "()Z"⟩, 29), (⟨"PassedTokenModel", "lost", "()Z"⟩, 29), (⟨"PassedTokenModel", "polling", "()Z"⟩, 29)]
theorem lw_r5 : ∀ q ∈ lw_privs_5, lw_okq q := List.forall_mem_cons.mpr ⟨lw_p64, List.forall_mem_cons.mpr ⟨lw_p65, List.forall_mem_cons.mpr ⟨lw_p66, fun _ h => absurd h List.not_mem_nil⟩⟩⟩
def lw_privs : List (MethodName × Nat) := lw_privs_1 ++ (lw_privs_2 ++ (lw_privs_3 ++ (lw_privs_4 ++ (lw_privs_5))))
def lw_tbl : List Cond := k2_sels lw_privs ++ tables_1
theorem lw_privs_ok : ∀ q ∈ lw_privs, lw_okq q := by
  show ∀ q ∈ lw_privs_1 ++ (lw_privs_2 ++ (lw_privs_3 ++ (lw_privs_4 ++ (lw_privs_5)))), lw_okq q
  exact List.forall_mem_append.mpr ⟨lw_r1, List.forall_mem_append.mpr ⟨lw_r2, List.forall_mem_append.mpr ⟨lw_r3, List.forall_mem_append.mpr ⟨lw_r4, lw_r5⟩⟩⟩⟩

def F_Row : u_T := fun k => match k with
  | 0 => ("PassedToken$Row", "bytes", "[I", true)
  | _ => ("PassedToken$Row", "count", "I", false)
def t_Row : Nat → FieldType := fun k => match k with
  | 0 => .array (.int)
  | _ => .int
theorem n_Row : ∀ a, a < 2 → ∀ b, b < 2 → a ≠ b → (F_Row a).2.1 ≠ (F_Row b).2.1 := by decide +kernel
theorem t_Row_ok : ∀ k, k < 2 → parseFieldDescriptor (F_Row k).2.2.1 = some (t_Row k) := by decide +kernel
def F_Thing : u_T := fun k => match k with
  | 0 => ("PassedToken$Thing", "reference", "I", true)
  | 1 => ("PassedToken$Thing", "binary", "Z", true)
  | 2 => ("PassedToken$Thing", "values", "[I", true)
  | _ => ("PassedToken$Thing", "given", "[Z", true)
def t_Thing : Nat → FieldType := fun k => match k with
  | 0 => .int
  | 1 => .boolean
  | 2 => .array (.int)
  | _ => .array (.boolean)
theorem n_Thing : ∀ a, a < 4 → ∀ b, b < 4 → a ≠ b → (F_Thing a).2.1 ≠ (F_Thing b).2.1 := by decide +kernel
theorem t_Thing_ok : ∀ k, k < 4 → parseFieldDescriptor (F_Thing k).2.2.1 = some (t_Thing k) := by decide +kernel
def F_Ear : u_T := fun k => match k with
  | 0 => ("PassedToken$Ear", "own", "I", true)
  | 1 => ("PassedToken$Ear", "header", "LPassedToken$Row;", true)
  | 2 => ("PassedToken$Ear", "data", "LPassedToken$Row;", true)
  | 3 => ("PassedToken$Ear", "stage", "I", false)
  | 4 => ("PassedToken$Ear", "check", "I", false)
  | _ => ("PassedToken$Ear", "lowCheck", "I", false)
def t_Ear : Nat → FieldType := fun k => match k with
  | 0 => .int
  | 1 => .object "PassedToken$Row"
  | 2 => .object "PassedToken$Row"
  | 3 => .int
  | 4 => .int
  | _ => .int
theorem n_Ear : ∀ a, a < 6 → ∀ b, b < 6 → a ≠ b → (F_Ear a).2.1 ≠ (F_Ear b).2.1 := by decide +kernel
theorem t_Ear_ok : ∀ k, k < 6 → parseFieldDescriptor (F_Ear k).2.2.1 = some (t_Ear k) := by decide +kernel
def F_Desk : u_T := fun k => match k with
  | 0 => ("PassedToken$Desk", "things", "[LPassedToken$Thing;", true)
  | 1 => ("PassedToken$Desk", "answer", "LPassedToken$Row;", true)
  | 2 => ("PassedToken$Desk", "asked", "LPassedToken$Row;", false)
  | 3 => ("PassedToken$Desk", "at", "I", false)
  | 4 => ("PassedToken$Desk", "id", "I", false)
  | 5 => ("PassedToken$Desk", "service", "I", false)
  | 6 => ("PassedToken$Desk", "reference", "I", false)
  | 7 => ("PassedToken$Desk", "asksFor", "LPassedToken$Thing;", false)
  | 8 => ("PassedToken$Desk", "property", "I", false)
  | 9 => ("PassedToken$Desk", "index", "I", false)
  | 10 => ("PassedToken$Desk", "writtenMark", "I", false)
  | 11 => ("PassedToken$Desk", "writtenValue", "I", false)
  | _ => ("PassedToken$Desk", "rank", "I", false)
def t_Desk : Nat → FieldType := fun k => match k with
  | 0 => .array (.object "PassedToken$Thing")
  | 1 => .object "PassedToken$Row"
  | 2 => .object "PassedToken$Row"
  | 3 => .int
  | 4 => .int
  | 5 => .int
  | 6 => .int
  | 7 => .object "PassedToken$Thing"
  | 8 => .int
  | 9 => .int
  | 10 => .int
  | 11 => .int
  | _ => .int
theorem n_Desk : ∀ a, a < 13 → ∀ b, b < 13 → a ≠ b → (F_Desk a).2.1 ≠ (F_Desk b).2.1 := by decide +kernel
theorem t_Desk_ok : ∀ k, k < 13 → parseFieldDescriptor (F_Desk k).2.2.1 = some (t_Desk k) := by decide +kernel
def F_PT : u_T := fun k => match k with
  | 0 => ("PassedToken", "own", "I", true)
  | 1 => ("PassedToken", "most", "I", true)
  | 2 => ("PassedToken", "ear", "LPassedToken$Ear;", true)
  | 3 => ("PassedToken", "out", "LPassedToken$Row;", true)
  | 4 => ("PassedToken", "noData", "LPassedToken$Row;", true)
  | 5 => ("PassedToken", "request", "LPassedToken$Row;", true)
  | 6 => ("PassedToken", "latestReply", "LPassedToken$Row;", true)
  | 7 => ("PassedToken", "desk", "LPassedToken$Desk;", true)
  | 8 => ("PassedToken", "mode", "I", false)
  | 9 => ("PassedToken", "next", "I", false)
  | 10 => ("PassedToken", "polled", "I", false)
  | 11 => ("PassedToken", "tokens", "I", false)
  | 12 => ("PassedToken", "tries", "I", false)
  | 13 => ("PassedToken", "sole", "Z", false)
  | 14 => ("PassedToken", "events", "I", false)
  | 15 => ("PassedToken", "stillness", "I", false)
  | 16 => ("PassedToken", "requestTo", "I", false)
  | _ => ("PassedToken", "requestWaits", "Z", false)
def t_PT : Nat → FieldType := fun k => match k with
  | 0 => .int
  | 1 => .int
  | 2 => .object "PassedToken$Ear"
  | 3 => .object "PassedToken$Row"
  | 4 => .object "PassedToken$Row"
  | 5 => .object "PassedToken$Row"
  | 6 => .object "PassedToken$Row"
  | 7 => .object "PassedToken$Desk"
  | 8 => .int
  | 9 => .int
  | 10 => .int
  | 11 => .int
  | 12 => .int
  | 13 => .boolean
  | 14 => .int
  | 15 => .int
  | 16 => .int
  | _ => .boolean
theorem n_PT : ∀ a, a < 18 → ∀ b, b < 18 → a ≠ b → (F_PT a).2.1 ≠ (F_PT b).2.1 := by decide +kernel
theorem t_PT_ok : ∀ k, k < 18 → parseFieldDescriptor (F_PT k).2.2.1 = some (t_PT k) := by decide +kernel
def F_Mod : u_T := fun k => match k with
  | 0 => ("PassedTokenModel", "own", "I", true)
  | 1 => ("PassedTokenModel", "most", "I", true)
  | 2 => ("PassedTokenModel", "silence", "I", false)
  | 3 => ("PassedTokenModel", "events", "I", false)
  | 4 => ("PassedTokenModel", "state", "I", false)
  | 5 => ("PassedTokenModel", "next", "I", false)
  | 6 => ("PassedTokenModel", "polled", "I", false)
  | 7 => ("PassedTokenModel", "tokens", "I", false)
  | 8 => ("PassedTokenModel", "tries", "I", false)
  | 9 => ("PassedTokenModel", "sole", "Z", false)
  | 10 => ("PassedTokenModel", "come", "I", false)
  | 11 => ("PassedTokenModel", "header", "[I", true)
  | 12 => ("PassedTokenModel", "data", "[I", true)
  | 13 => ("PassedTokenModel", "size", "I", false)
  | 14 => ("PassedTokenModel", "heard", "Z", false)
  | 15 => ("PassedTokenModel", "invalid", "Z", false)
  | 16 => ("PassedTokenModel", "out", "I", false)
  | 17 => ("PassedTokenModel", "sent", "[I", true)
  | 18 => ("PassedTokenModel", "answered", "I", false)
  | 19 => ("PassedTokenModel", "answer", "[I", true)
  | 20 => ("PassedTokenModel", "replied", "I", false)
  | 21 => ("PassedTokenModel", "reply", "[I", true)
  | 22 => ("PassedTokenModel", "asks", "Z", false)
  | 23 => ("PassedTokenModel", "askTo", "I", false)
  | 24 => ("PassedTokenModel", "request", "[I", true)
  | 25 => ("PassedTokenModel", "values", "[I", true)
  | 26 => ("PassedTokenModel", "given", "[Z", true)
  | 27 => ("PassedTokenModel", "at", "I", false)
  | _ => ("PassedTokenModel", "fine", "Z", false)
def t_Mod : Nat → FieldType := fun k => match k with
  | 0 => .int
  | 1 => .int
  | 2 => .int
  | 3 => .int
  | 4 => .int
  | 5 => .int
  | 6 => .int
  | 7 => .int
  | 8 => .int
  | 9 => .boolean
  | 10 => .int
  | 11 => .array (.int)
  | 12 => .array (.int)
  | 13 => .int
  | 14 => .boolean
  | 15 => .boolean
  | 16 => .int
  | 17 => .array (.int)
  | 18 => .int
  | 19 => .array (.int)
  | 20 => .int
  | 21 => .array (.int)
  | 22 => .boolean
  | 23 => .int
  | 24 => .array (.int)
  | 25 => .array (.int)
  | 26 => .array (.boolean)
  | 27 => .int
  | _ => .boolean
theorem n_Mod : ∀ a, a < 29 → ∀ b, b < 29 → a ≠ b → (F_Mod a).2.1 ≠ (F_Mod b).2.1 := by decide +kernel
theorem t_Mod_ok : ∀ k, k < 29 → parseFieldDescriptor (F_Mod k).2.2.1 = some (t_Mod k) := by decide +kernel
abbrev vC : List vw_C := [("PassedToken$Row", F_Row, 2), ("PassedToken$Thing", F_Thing, 4), ("PassedToken$Ear", F_Ear, 6), ("PassedToken$Desk", F_Desk, 13), ("PassedToken", F_PT, 18), ("PassedTokenModel", F_Mod, 29)]
abbrev b_PT_init : ByteArray := prog_1_method_1_code
abbrev y_PT_init : MethodName := ⟨"PassedToken", "<init>", "(II)V"⟩
abbrev cd_PT_init : Cond := .code y_PT_init b_PT_init 3 none
abbrev b_Row_init : ByteArray := prog_5_method_1_code
abbrev y_Row_init : MethodName := ⟨"PassedToken$Row", "<init>", "(I)V"⟩
abbrev cd_Row_init : Cond := .code y_Row_init b_Row_init 2 none
abbrev b_Desk_init : ByteArray := prog_3_method_1_code
abbrev y_Desk_init : MethodName := ⟨"PassedToken$Desk", "<init>", "()V"⟩
abbrev cd_Desk_init : Cond := .code y_Desk_init b_Desk_init 1 none
abbrev b_Thing_init : ByteArray := prog_6_method_1_code
abbrev y_Thing_init : MethodName := ⟨"PassedToken$Thing", "<init>", "(II)V"⟩
abbrev cd_Thing_init : Cond := .code y_Thing_init b_Thing_init 3 none
abbrev b_Ear_init : ByteArray := prog_4_method_1_code
abbrev y_Ear_init : MethodName := ⟨"PassedToken$Ear", "<init>", "(I)V"⟩
abbrev cd_Ear_init : Cond := .code y_Ear_init b_Ear_init 2 none
abbrev b_PT_hear : ByteArray := prog_1_method_2_code
abbrev y_PT_hear : MethodName := ⟨"PassedToken", "hear", "(I)I"⟩
abbrev cd_PT_hear : Cond := .code y_PT_hear b_PT_hear 2 (some FieldType.int)
abbrev b_PT_isByte : ByteArray := prog_1_method_12_code
abbrev y_PT_isByte : MethodName := ⟨"PassedToken", "isByte", "(I)Z"⟩
abbrev cd_PT_isByte : Cond := .code y_PT_isByte b_PT_isByte 1 (some FieldType.boolean)
abbrev b_Row_clear : ByteArray := prog_5_method_2_code
abbrev y_Row_clear : MethodName := ⟨"PassedToken$Row", "clear", "()V"⟩
abbrev cd_Row_clear : Cond := .code y_Row_clear b_Row_clear 1 none
abbrev b_Ear_take : ByteArray := prog_4_method_6_code
abbrev y_Ear_take : MethodName := ⟨"PassedToken$Ear", "take", "(I)I"⟩
abbrev cd_Ear_take : Cond := .code y_Ear_take b_Ear_take 2 (some FieldType.int)
abbrev b_Ear_takeSecond : ByteArray := prog_4_method_8_code
abbrev y_Ear_takeSecond : MethodName := ⟨"PassedToken$Ear", "takeSecond", "(I)V"⟩
abbrev cd_Ear_takeSecond : Cond := .code y_Ear_takeSecond b_Ear_takeSecond 2 none
abbrev b_Ear_takeHeader : ByteArray := prog_4_method_9_code
abbrev y_Ear_takeHeader : MethodName := ⟨"PassedToken$Ear", "takeHeader", "(I)V"⟩
abbrev cd_Ear_takeHeader : Cond := .code y_Ear_takeHeader b_Ear_takeHeader 2 none
abbrev b_Row_put : ByteArray := prog_5_method_5_code
abbrev y_Row_put : MethodName := ⟨"PassedToken$Row", "put", "(I)V"⟩
abbrev cd_Row_put : Cond := .code y_Row_put b_Row_put 2 none
abbrev b_Chk_withByte : ByteArray := prog_2_method_4_code
abbrev y_Chk_withByte : MethodName := ⟨"PassedToken$Check", "withByte", "(III)I"⟩
abbrev cd_Chk_withByte : Cond := .code y_Chk_withByte b_Chk_withByte 5 (some FieldType.int)
abbrev b_Row_size : ByteArray := prog_5_method_3_code
abbrev y_Row_size : MethodName := ⟨"PassedToken$Row", "size", "()I"⟩
abbrev cd_Row_size : Cond := .code y_Row_size b_Row_size 1 (some FieldType.int)
abbrev b_Ear_takeHeaderCheck : ByteArray := prog_4_method_10_code
abbrev y_Ear_takeHeaderCheck : MethodName := ⟨"PassedToken$Ear", "takeHeaderCheck", "(I)I"⟩
abbrev cd_Ear_takeHeaderCheck : Cond := .code y_Ear_takeHeaderCheck b_Ear_takeHeaderCheck 2 (some FieldType.int)
abbrev b_Ear_dataBytes : ByteArray := prog_4_method_13_code
abbrev y_Ear_dataBytes : MethodName := ⟨"PassedToken$Ear", "dataBytes", "()I"⟩
abbrev cd_Ear_dataBytes : Cond := .code y_Ear_dataBytes b_Ear_dataBytes 1 (some FieldType.int)
abbrev b_Row_at : ByteArray := prog_5_method_4_code
abbrev y_Row_at : MethodName := ⟨"PassedToken$Row", "at", "(I)I"⟩
abbrev cd_Row_at : Cond := .code y_Row_at b_Row_at 2 (some FieldType.int)
abbrev b_Ear_ended : ByteArray := prog_4_method_14_code
abbrev y_Ear_ended : MethodName := ⟨"PassedToken$Ear", "ended", "()I"⟩
abbrev cd_Ear_ended : Cond := .code y_Ear_ended b_Ear_ended 1 (some FieldType.int)
abbrev b_Ear_to : ByteArray := prog_4_method_3_code
abbrev y_Ear_to : MethodName := ⟨"PassedToken$Ear", "to", "()I"⟩
abbrev cd_Ear_to : Cond := .code y_Ear_to b_Ear_to 1 (some FieldType.int)
abbrev b_Ear_takeData : ByteArray := prog_4_method_11_code
abbrev y_Ear_takeData : MethodName := ⟨"PassedToken$Ear", "takeData", "(I)V"⟩
abbrev cd_Ear_takeData : Cond := .code y_Ear_takeData b_Ear_takeData 2 none
abbrev b_Ear_takeHighCheck : ByteArray := prog_4_method_12_code
abbrev y_Ear_takeHighCheck : MethodName := ⟨"PassedToken$Ear", "takeHighCheck", "(I)I"⟩
abbrev cd_Ear_takeHighCheck : Cond := .code y_Ear_takeHighCheck b_Ear_takeHighCheck 2 (some FieldType.int)
abbrev b_PT_settle : ByteArray := prog_1_method_15_code
abbrev y_PT_settle : MethodName := ⟨"PassedToken", "settle", "(I)V"⟩
abbrev cd_PT_settle : Cond := .code y_PT_settle b_PT_settle 5 none
abbrev b_PT_idleLine : ByteArray := prog_1_method_16_code
abbrev y_PT_idleLine : MethodName := ⟨"PassedToken", "idleLine", "(I)Z"⟩
abbrev cd_PT_idleLine : Cond := .code y_PT_idleLine b_PT_idleLine 2 (some FieldType.boolean)
abbrev b_Ear_type : ByteArray := prog_4_method_2_code
abbrev y_Ear_type : MethodName := ⟨"PassedToken$Ear", "type", "()I"⟩
abbrev cd_Ear_type : Cond := .code y_Ear_type b_Ear_type 1 (some FieldType.int)
abbrev b_Ear_from : ByteArray := prog_4_method_4_code
abbrev y_Ear_from : MethodName := ⟨"PassedToken$Ear", "from", "()I"⟩
abbrev cd_Ear_from : Cond := .code y_Ear_from b_Ear_from 1 (some FieldType.int)
abbrev b_PT_send : ByteArray := prog_1_method_28_code
abbrev y_PT_send : MethodName := ⟨"PassedToken", "send", "(IILPassedToken$Row;)V"⟩
abbrev cd_PT_send : Cond := .code y_PT_send b_PT_send 6 none
abbrev b_Chk_ofHeader : ByteArray := prog_2_method_2_code
abbrev y_Chk_ofHeader : MethodName := ⟨"PassedToken$Check", "ofHeader", "(LPassedToken$Row;I)I"⟩
abbrev cd_Chk_ofHeader : Cond := .code y_Chk_ofHeader b_Chk_ofHeader 4 (some FieldType.int)
abbrev b_Row_putAll : ByteArray := prog_5_method_7_code
abbrev y_Row_putAll : MethodName := ⟨"PassedToken$Row", "putAll", "(LPassedToken$Row;)V"⟩
abbrev cd_Row_putAll : Cond := .code y_Row_putAll b_Row_putAll 3 none
abbrev b_Chk_ofData : ByteArray := prog_2_method_3_code
abbrev y_Chk_ofData : MethodName := ⟨"PassedToken$Check", "ofData", "(LPassedToken$Row;)I"⟩
abbrev cd_Chk_ofData : Cond := .code y_Chk_ofData b_Chk_ofData 3 (some FieldType.int)
abbrev b_Ear_data : ByteArray := prog_4_method_5_code
abbrev y_Ear_data : MethodName := ⟨"PassedToken$Ear", "data", "()LPassedToken$Row;"⟩
abbrev cd_Ear_data : Cond := .code y_Ear_data b_Ear_data 1 (some (FieldType.object "PassedToken$Row"))
abbrev b_Desk_answerTo : ByteArray := prog_3_method_3_code
abbrev y_Desk_answerTo : MethodName := ⟨"PassedToken$Desk", "answerTo", "(LPassedToken$Row;)LPassedToken$Row;"⟩
abbrev cd_Desk_answerTo : Cond := .code y_Desk_answerTo b_Desk_answerTo 2 (some (FieldType.object "PassedToken$Row"))
abbrev b_Desk_isForDesk : ByteArray := prog_3_method_4_code
abbrev y_Desk_isForDesk : MethodName := ⟨"PassedToken$Desk", "isForDesk", "(LPassedToken$Row;)Z"⟩
abbrev cd_Desk_isForDesk : Cond := .code y_Desk_isForDesk b_Desk_isForDesk 1 (some FieldType.boolean)
abbrev b_Desk_begin : ByteArray := prog_3_method_6_code
abbrev y_Desk_begin : MethodName := ⟨"PassedToken$Desk", "begin", "(II)V"⟩
abbrev cd_Desk_begin : Cond := .code y_Desk_begin b_Desk_begin 3 none
abbrev b_Desk_takesPlace : ByteArray := prog_3_method_7_code
abbrev y_Desk_takesPlace : MethodName := ⟨"PassedToken$Desk", "takesPlace", "()Z"⟩
abbrev cd_Desk_takesPlace : Cond := .code y_Desk_takesPlace b_Desk_takesPlace 1 (some FieldType.boolean)
abbrev b_Desk_follows : ByteArray := prog_3_method_9_code
abbrev y_Desk_follows : MethodName := ⟨"PassedToken$Desk", "follows", "(I)Z"⟩
abbrev cd_Desk_follows : Cond := .code y_Desk_follows b_Desk_follows 2 (some FieldType.boolean)
abbrev b_Desk_nextInt : ByteArray := prog_3_method_11_code
abbrev y_Desk_nextInt : MethodName := ⟨"PassedToken$Desk", "nextInt", "()I"⟩
abbrev cd_Desk_nextInt : Cond := .code y_Desk_nextInt b_Desk_nextInt 3 (some FieldType.int)
abbrev b_Desk_nextByte : ByteArray := prog_3_method_10_code
abbrev y_Desk_nextByte : MethodName := ⟨"PassedToken$Desk", "nextByte", "()I"⟩
abbrev cd_Desk_nextByte : Cond := .code y_Desk_nextByte b_Desk_nextByte 2 (some FieldType.int)
abbrev b_Desk_takesWritten : ByteArray := prog_3_method_8_code
abbrev y_Desk_takesWritten : MethodName := ⟨"PassedToken$Desk", "takesWritten", "()Z"⟩
abbrev cd_Desk_takesWritten : Cond := .code y_Desk_takesWritten b_Desk_takesWritten 1 (some FieldType.boolean)
abbrev b_Desk_answerWellFormed : ByteArray := prog_3_method_5_code
abbrev y_Desk_answerWellFormed : MethodName := ⟨"PassedToken$Desk", "answerWellFormed", "()V"⟩
abbrev cd_Desk_answerWellFormed : Cond := .code y_Desk_answerWellFormed b_Desk_answerWellFormed 2 none
abbrev b_Desk_thingOf : ByteArray := prog_3_method_12_code
abbrev y_Desk_thingOf : MethodName := ⟨"PassedToken$Desk", "thingOf", "(I)LPassedToken$Thing;"⟩
abbrev cd_Desk_thingOf : Cond := .code y_Desk_thingOf b_Desk_thingOf 3 (some (FieldType.object "PassedToken$Thing"))
abbrev b_Thing_reference : ByteArray := prog_6_method_2_code
abbrev y_Thing_reference : MethodName := ⟨"PassedToken$Thing", "reference", "()I"⟩
abbrev cd_Thing_reference : Cond := .code y_Thing_reference b_Thing_reference 1 (some FieldType.int)
abbrev b_Desk_fault : ByteArray := prog_3_method_13_code
abbrev y_Desk_fault : MethodName := ⟨"PassedToken$Desk", "fault", "()I"⟩
abbrev cd_Desk_fault : Cond := .code y_Desk_fault b_Desk_fault 1 (some FieldType.int)
abbrev b_Desk_faultOfWrite : ByteArray := prog_3_method_14_code
abbrev y_Desk_faultOfWrite : MethodName := ⟨"PassedToken$Desk", "faultOfWrite", "()I"⟩
abbrev cd_Desk_faultOfWrite : Cond := .code y_Desk_faultOfWrite b_Desk_faultOfWrite 1 (some FieldType.int)
abbrev b_Thing_isBinary : ByteArray := prog_6_method_3_code
abbrev y_Thing_isBinary : MethodName := ⟨"PassedToken$Thing", "isBinary", "()Z"⟩
abbrev cd_Thing_isBinary : Cond := .code y_Thing_isBinary b_Thing_isBinary 1 (some FieldType.boolean)
abbrev b_Thing_takes : ByteArray := prog_6_method_6_code
abbrev y_Thing_takes : MethodName := ⟨"PassedToken$Thing", "takes", "(I)Z"⟩
abbrev cd_Thing_takes : Cond := .code y_Thing_takes b_Thing_takes 2 (some FieldType.boolean)
abbrev b_Desk_write : ByteArray := prog_3_method_15_code
abbrev y_Desk_write : MethodName := ⟨"PassedToken$Desk", "write", "()V"⟩
abbrev cd_Desk_write : Cond := .code y_Desk_write b_Desk_write 1 none
abbrev b_Thing_takeAway : ByteArray := prog_6_method_8_code
abbrev y_Thing_takeAway : MethodName := ⟨"PassedToken$Thing", "takeAway", "(I)Z"⟩
abbrev cd_Thing_takeAway : Cond := .code y_Thing_takeAway b_Thing_takeAway 2 (some FieldType.boolean)
abbrev b_Thing_give : ByteArray := prog_6_method_7_code
abbrev y_Thing_give : MethodName := ⟨"PassedToken$Thing", "give", "(II)Z"⟩
abbrev cd_Thing_give : Cond := .code y_Thing_give b_Thing_give 3 (some FieldType.boolean)
abbrev b_Desk_tellPlace : ByteArray := prog_3_method_16_code
abbrev y_Desk_tellPlace : MethodName := ⟨"PassedToken$Desk", "tellPlace", "()V"⟩
abbrev cd_Desk_tellPlace : Cond := .code y_Desk_tellPlace b_Desk_tellPlace 1 none
abbrev b_Row_putInt : ByteArray := prog_5_method_6_code
abbrev y_Row_putInt : MethodName := ⟨"PassedToken$Row", "putInt", "(I)V"⟩
abbrev cd_Row_putInt : Cond := .code y_Row_putInt b_Row_putInt 2 none
abbrev b_Desk_tellProperty : ByteArray := prog_3_method_17_code
abbrev y_Desk_tellProperty : MethodName := ⟨"PassedToken$Desk", "tellProperty", "()V"⟩
abbrev cd_Desk_tellProperty : Cond := .code y_Desk_tellProperty b_Desk_tellProperty 1 none
abbrev b_Thing_isGiven : ByteArray := prog_6_method_4_code
abbrev y_Thing_isGiven : MethodName := ⟨"PassedToken$Thing", "isGiven", "(I)Z"⟩
abbrev cd_Thing_isGiven : Cond := .code y_Thing_isGiven b_Thing_isGiven 2 (some FieldType.boolean)
abbrev b_Desk_valueRead : ByteArray := prog_3_method_18_code
abbrev y_Desk_valueRead : MethodName := ⟨"PassedToken$Desk", "valueRead", "()I"⟩
abbrev cd_Desk_valueRead : Cond := .code y_Desk_valueRead b_Desk_valueRead 1 (some FieldType.int)
abbrev b_Thing_shown : ByteArray := prog_6_method_9_code
abbrev y_Thing_shown : MethodName := ⟨"PassedToken$Thing", "shown", "()I"⟩
abbrev cd_Thing_shown : Cond := .code y_Thing_shown b_Thing_shown 2 (some FieldType.int)
abbrev b_Thing_valueOf : ByteArray := prog_6_method_5_code
abbrev y_Thing_valueOf : MethodName := ⟨"PassedToken$Thing", "valueOf", "(I)I"⟩
abbrev cd_Thing_valueOf : Cond := .code y_Thing_valueOf b_Thing_valueOf 2 (some FieldType.int)
abbrev b_PT_sendAnswer : ByteArray := prog_1_method_27_code
abbrev y_PT_sendAnswer : MethodName := ⟨"PassedToken", "sendAnswer", "(LPassedToken$Row;)V"⟩
abbrev cd_PT_sendAnswer : Cond := .code y_PT_sendAnswer b_PT_sendAnswer 2 none
abbrev b_PT_useLine : ByteArray := prog_1_method_17_code
abbrev y_PT_useLine : MethodName := ⟨"PassedToken", "useLine", "()Z"⟩
abbrev cd_PT_useLine : Cond := .code y_PT_useLine b_PT_useLine 1 (some FieldType.boolean)
abbrev b_PT_waitLine : ByteArray := prog_1_method_18_code
abbrev y_PT_waitLine : MethodName := ⟨"PassedToken", "waitLine", "(I)Z"⟩
abbrev cd_PT_waitLine : Cond := .code y_PT_waitLine b_PT_waitLine 2 (some FieldType.boolean)
abbrev b_PT_endsWaiting : ByteArray := prog_1_method_19_code
abbrev y_PT_endsWaiting : MethodName := ⟨"PassedToken", "endsWaiting", "()Z"⟩
abbrev cd_PT_endsWaiting : Cond := .code y_PT_endsWaiting b_PT_endsWaiting 1 (some FieldType.boolean)
abbrev b_PT_doneLine : ByteArray := prog_1_method_20_code
abbrev y_PT_doneLine : MethodName := ⟨"PassedToken", "doneLine", "()Z"⟩
abbrev cd_PT_doneLine : Cond := .code y_PT_doneLine b_PT_doneLine 1 (some FieldType.boolean)
abbrev b_PT_behind : ByteArray := prog_1_method_14_code
abbrev y_PT_behind : MethodName := ⟨"PassedToken", "behind", "(I)I"⟩
abbrev cd_PT_behind : Cond := .code y_PT_behind b_PT_behind 2 (some FieldType.int)
abbrev b_PT_poll : ByteArray := prog_1_method_25_code
abbrev y_PT_poll : MethodName := ⟨"PassedToken", "poll", "(I)V"⟩
abbrev cd_PT_poll : Cond := .code y_PT_poll b_PT_poll 2 none
abbrev b_PT_pass : ByteArray := prog_1_method_26_code
abbrev y_PT_pass : MethodName := ⟨"PassedToken", "pass", "(I)V"⟩
abbrev cd_PT_pass : Cond := .code y_PT_pass b_PT_pass 2 none
abbrev b_PT_passingLine : ByteArray := prog_1_method_21_code
abbrev y_PT_passingLine : MethodName := ⟨"PassedToken", "passingLine", "()Z"⟩
abbrev cd_PT_passingLine : Cond := .code y_PT_passingLine b_PT_passingLine 1 (some FieldType.boolean)
abbrev b_PT_lostLine : ByteArray := prog_1_method_22_code
abbrev y_PT_lostLine : MethodName := ⟨"PassedToken", "lostLine", "()Z"⟩
abbrev cd_PT_lostLine : Cond := .code y_PT_lostLine b_PT_lostLine 1 (some FieldType.boolean)
abbrev b_PT_answeredLine : ByteArray := prog_1_method_23_code
abbrev y_PT_answeredLine : MethodName := ⟨"PassedToken", "answeredLine", "()Z"⟩
abbrev cd_PT_answeredLine : Cond := .code y_PT_answeredLine b_PT_answeredLine 1 (some FieldType.boolean)
abbrev b_PT_isOtherStation : ByteArray := prog_1_method_13_code
abbrev y_PT_isOtherStation : MethodName := ⟨"PassedToken", "isOtherStation", "(I)Z"⟩
abbrev cd_PT_isOtherStation : Cond := .code y_PT_isOtherStation b_PT_isOtherStation 2 (some FieldType.boolean)
abbrev b_PT_unansweredLine : ByteArray := prog_1_method_24_code
abbrev y_PT_unansweredLine : MethodName := ⟨"PassedToken", "unansweredLine", "(I)Z"⟩
abbrev cd_PT_unansweredLine : Cond := .code y_PT_unansweredLine b_PT_unansweredLine 2 (some FieldType.boolean)
abbrev b_PT_quiet : ByteArray := prog_1_method_3_code
abbrev y_PT_quiet : MethodName := ⟨"PassedToken", "quiet", "(I)I"⟩
abbrev cd_PT_quiet : Cond := .code y_PT_quiet b_PT_quiet 3 (some FieldType.int)
abbrev b_Ear_rest : ByteArray := prog_4_method_7_code
abbrev y_Ear_rest : MethodName := ⟨"PassedToken$Ear", "rest", "(I)I"⟩
abbrev cd_Ear_rest : Cond := .code y_Ear_rest b_Ear_rest 2 (some FieldType.int)
abbrev b_PT_sent : ByteArray := prog_1_method_4_code
abbrev y_PT_sent : MethodName := ⟨"PassedToken", "sent", "(I)I"⟩
abbrev cd_PT_sent : Cond := .code y_PT_sent b_PT_sent 2 (some FieldType.int)
abbrev b_PT_ask : ByteArray := prog_1_method_5_code
abbrev y_PT_ask : MethodName := ⟨"PassedToken", "ask", "(IIIII)Z"⟩
abbrev cd_PT_ask : Cond := .code y_PT_ask b_PT_ask 6 (some FieldType.boolean)
abbrev b_PT_replied : ByteArray := prog_1_method_6_code
abbrev y_PT_replied : MethodName := ⟨"PassedToken", "replied", "()I"⟩
abbrev cd_PT_replied : Cond := .code y_PT_replied b_PT_replied 1 (some FieldType.int)
abbrev b_PT_reply : ByteArray := prog_1_method_7_code
abbrev y_PT_reply : MethodName := ⟨"PassedToken", "reply", "(I)I"⟩
abbrev cd_PT_reply : Cond := .code y_PT_reply b_PT_reply 2 (some FieldType.int)
abbrev b_PT_state : ByteArray := prog_1_method_8_code
abbrev y_PT_state : MethodName := ⟨"PassedToken", "state", "()I"⟩
abbrev cd_PT_state : Cond := .code y_PT_state b_PT_state 1 (some FieldType.int)
abbrev b_PT_silence : ByteArray := prog_1_method_9_code
abbrev y_PT_silence : MethodName := ⟨"PassedToken", "silence", "()I"⟩
abbrev cd_PT_silence : Cond := .code y_PT_silence b_PT_silence 1 (some FieldType.int)
abbrev b_PT_set : ByteArray := prog_1_method_10_code
abbrev y_PT_set : MethodName := ⟨"PassedToken", "set", "(IIIZ)Z"⟩
abbrev cd_PT_set : Cond := .code y_PT_set b_PT_set 6 (some FieldType.boolean)
abbrev b_Desk_thing : ByteArray := prog_3_method_2_code
abbrev y_Desk_thing : MethodName := ⟨"PassedToken$Desk", "thing", "(I)LPassedToken$Thing;"⟩
abbrev cd_Desk_thing : Cond := .code y_Desk_thing b_Desk_thing 2 (some (FieldType.object "PassedToken$Thing"))
abbrev b_PT_present : ByteArray := prog_1_method_11_code
abbrev y_PT_present : MethodName := ⟨"PassedToken", "present", "(I)I"⟩
abbrev cd_PT_present : Cond := .code y_PT_present b_PT_present 3 (some FieldType.int)
abbrev b_Law_cell : ByteArray := method_2_code
abbrev y_Law_cell : MethodName := ⟨"PassedTokenLaw", "cell", "([II)I"⟩
abbrev cd_Law_cell : Cond := .code y_Law_cell b_Law_cell 2 (some FieldType.int)
abbrev b_Mod_init : ByteArray := prog_8_method_1_code
abbrev y_Mod_init : MethodName := ⟨"PassedTokenModel", "<init>", "(II)V"⟩
abbrev cd_Mod_init : Cond := .code y_Mod_init b_Mod_init 3 none
abbrev b_Mod_hear : ByteArray := prog_8_method_36_code
abbrev y_Mod_hear : MethodName := ⟨"PassedTokenModel", "hear", "(I)I"⟩
abbrev cd_Mod_hear : Cond := .code y_Mod_hear b_Mod_hear 2 (some FieldType.int)
abbrev b_Mod_listen : ByteArray := prog_8_method_9_code
abbrev y_Mod_listen : MethodName := ⟨"PassedTokenModel", "listen", "(I)V"⟩
abbrev cd_Mod_listen : Cond := .code y_Mod_listen b_Mod_listen 2 none
abbrev b_Mod_endHeader : ByteArray := prog_8_method_10_code
abbrev y_Mod_endHeader : MethodName := ⟨"PassedTokenModel", "endHeader", "()V"⟩
abbrev cd_Mod_endHeader : Cond := .code y_Mod_endHeader b_Mod_endHeader 3 none
abbrev b_Mod_headerStep : ByteArray := prog_8_method_3_code
abbrev y_Mod_headerStep : MethodName := ⟨"PassedTokenModel", "headerStep", "(II)I"⟩
abbrev cd_Mod_headerStep : Cond := .code y_Mod_headerStep b_Mod_headerStep 4 (some FieldType.int)
abbrev b_Mod_isForMe : ByteArray := prog_8_method_12_code
abbrev y_Mod_isForMe : MethodName := ⟨"PassedTokenModel", "isForMe", "()Z"⟩
abbrev cd_Mod_isForMe : Cond := .code y_Mod_isForMe b_Mod_isForMe 1 (some FieldType.boolean)
abbrev b_Mod_endData : ByteArray := prog_8_method_11_code
abbrev y_Mod_endData : MethodName := ⟨"PassedTokenModel", "endData", "()V"⟩
abbrev cd_Mod_endData : Cond := .code y_Mod_endData b_Mod_endData 3 none
abbrev b_Mod_dataStep : ByteArray := prog_8_method_4_code
abbrev y_Mod_dataStep : MethodName := ⟨"PassedTokenModel", "dataStep", "(II)I"⟩
abbrev cd_Mod_dataStep : Cond := .code y_Mod_dataStep b_Mod_dataStep 4 (some FieldType.int)
abbrev b_Mod_settle : ByteArray := prog_8_method_13_code
abbrev y_Mod_settle : MethodName := ⟨"PassedTokenModel", "settle", "()V"⟩
abbrev cd_Mod_settle : Cond := .code y_Mod_settle b_Mod_settle 2 none
abbrev b_Mod_step : ByteArray := prog_8_method_14_code
abbrev y_Mod_step : MethodName := ⟨"PassedTokenModel", "step", "()Z"⟩
abbrev cd_Mod_step : Cond := .code y_Mod_step b_Mod_step 1 (some FieldType.boolean)
abbrev b_Mod_idle : ByteArray := prog_8_method_15_code
abbrev y_Mod_idle : MethodName := ⟨"PassedTokenModel", "idle", "()Z"⟩
abbrev cd_Mod_idle : Cond := .code y_Mod_idle b_Mod_idle 3 (some FieldType.boolean)
abbrev b_Mod_send : ByteArray := prog_8_method_6_code
abbrev y_Mod_send : MethodName := ⟨"PassedTokenModel", "send", "(III)V"⟩
abbrev cd_Mod_send : Cond := .code y_Mod_send b_Mod_send 7 none
abbrev b_Mod_put : ByteArray := prog_8_method_5_code
abbrev y_Mod_put : MethodName := ⟨"PassedTokenModel", "put", "(I)V"⟩
abbrev cd_Mod_put : Cond := .code y_Mod_put b_Mod_put 2 none
abbrev b_Mod_makeAnswer : ByteArray := prog_8_method_31_code
abbrev y_Mod_makeAnswer : MethodName := ⟨"PassedTokenModel", "makeAnswer", "()V"⟩
abbrev cd_Mod_makeAnswer : Cond := .code y_Mod_makeAnswer b_Mod_makeAnswer 9 none
abbrev b_Mod_reject : ByteArray := prog_8_method_32_code
abbrev y_Mod_reject : MethodName := ⟨"PassedTokenModel", "reject", "(II)V"⟩
abbrev cd_Mod_reject : Cond := .code y_Mod_reject b_Mod_reject 3 none
abbrev b_Mod_add : ByteArray := prog_8_method_24_code
abbrev y_Mod_add : MethodName := ⟨"PassedTokenModel", "add", "(I)V"⟩
abbrev cd_Mod_add : Cond := .code y_Mod_add b_Mod_add 2 none
abbrev b_Mod_expect : ByteArray := prog_8_method_28_code
abbrev y_Mod_expect : MethodName := ⟨"PassedTokenModel", "expect", "(I)V"⟩
abbrev cd_Mod_expect : Cond := .code y_Mod_expect b_Mod_expect 3 none
abbrev b_Mod_take : ByteArray := prog_8_method_27_code
abbrev y_Mod_take : MethodName := ⟨"PassedTokenModel", "take", "()I"⟩
abbrev cd_Mod_take : Cond := .code y_Mod_take b_Mod_take 1 (some FieldType.int)
abbrev b_Mod_takeInt : ByteArray := prog_8_method_30_code
abbrev y_Mod_takeInt : MethodName := ⟨"PassedTokenModel", "takeInt", "()I"⟩
abbrev cd_Mod_takeInt : Cond := .code y_Mod_takeInt b_Mod_takeInt 3 (some FieldType.int)
abbrev b_Mod_isNext : ByteArray := prog_8_method_29_code
abbrev y_Mod_isNext : MethodName := ⟨"PassedTokenModel", "isNext", "(I)Z"⟩
abbrev cd_Mod_isNext : Cond := .code y_Mod_isNext b_Mod_isNext 2 (some FieldType.boolean)
abbrev b_Mod_answerTo : ByteArray := prog_8_method_33_code
abbrev y_Mod_answerTo : MethodName := ⟨"PassedTokenModel", "answerTo", "(IIIIIII)V"⟩
abbrev cd_Mod_answerTo : Cond := .code y_Mod_answerTo b_Mod_answerTo 11 none
abbrev b_Mod_thingOf : ByteArray := prog_8_method_22_code
abbrev y_Mod_thingOf : MethodName := ⟨"PassedTokenModel", "thingOf", "(I)I"⟩
abbrev cd_Mod_thingOf : Cond := .code y_Mod_thingOf b_Mod_thingOf 3 (some FieldType.int)
abbrev b_Mod_wrong : ByteArray := prog_8_method_34_code
abbrev y_Mod_wrong : MethodName := ⟨"PassedTokenModel", "wrong", "(IIIII)I"⟩
abbrev cd_Mod_wrong : Cond := .code y_Mod_wrong b_Mod_wrong 6 (some FieldType.int)
abbrev b_Mod_tell : ByteArray := prog_8_method_35_code
abbrev y_Mod_tell : MethodName := ⟨"PassedTokenModel", "tell", "(IIIII)V"⟩
abbrev cd_Mod_tell : Cond := .code y_Mod_tell b_Mod_tell 6 none
abbrev b_Mod_addInt : ByteArray := prog_8_method_25_code
abbrev y_Mod_addInt : MethodName := ⟨"PassedTokenModel", "addInt", "(I)V"⟩
abbrev cd_Mod_addInt : Cond := .code y_Mod_addInt b_Mod_addInt 3 none
abbrev b_Mod_presentOf : ByteArray := prog_8_method_23_code
abbrev y_Mod_presentOf : MethodName := ⟨"PassedTokenModel", "presentOf", "(I)I"⟩
abbrev cd_Mod_presentOf : Cond := .code y_Mod_presentOf b_Mod_presentOf 4 (some FieldType.int)
abbrev b_Mod_addValue : ByteArray := prog_8_method_26_code
abbrev y_Mod_addValue : MethodName := ⟨"PassedTokenModel", "addValue", "(II)V"⟩
abbrev cd_Mod_addValue : Cond := .code y_Mod_addValue b_Mod_addValue 3 none
abbrev b_Mod_use : ByteArray := prog_8_method_16_code
abbrev y_Mod_use : MethodName := ⟨"PassedTokenModel", "use", "()Z"⟩
abbrev cd_Mod_use : Cond := .code y_Mod_use b_Mod_use 2 (some FieldType.boolean)
abbrev b_Mod_awaits : ByteArray := prog_8_method_17_code
abbrev y_Mod_awaits : MethodName := ⟨"PassedTokenModel", "awaits", "()Z"⟩
abbrev cd_Mod_awaits : Cond := .code y_Mod_awaits b_Mod_awaits 3 (some FieldType.boolean)
abbrev b_Mod_done : ByteArray := prog_8_method_18_code
abbrev y_Mod_done : MethodName := ⟨"PassedTokenModel", "done", "()Z"⟩
abbrev cd_Mod_done : Cond := .code y_Mod_done b_Mod_done 1 (some FieldType.boolean)
abbrev b_Mod_behind : ByteArray := prog_8_method_2_code
abbrev y_Mod_behind : MethodName := ⟨"PassedTokenModel", "behind", "(I)I"⟩
abbrev cd_Mod_behind : Cond := .code y_Mod_behind b_Mod_behind 2 (some FieldType.int)
abbrev b_Mod_poll : ByteArray := prog_8_method_7_code
abbrev y_Mod_poll : MethodName := ⟨"PassedTokenModel", "poll", "(I)V"⟩
abbrev cd_Mod_poll : Cond := .code y_Mod_poll b_Mod_poll 2 none
abbrev b_Mod_pass : ByteArray := prog_8_method_8_code
abbrev y_Mod_pass : MethodName := ⟨"PassedTokenModel", "pass", "()V"⟩
abbrev cd_Mod_pass : Cond := .code y_Mod_pass b_Mod_pass 1 none
abbrev b_Mod_passing : ByteArray := prog_8_method_19_code
abbrev y_Mod_passing : MethodName := ⟨"PassedTokenModel", "passing", "()Z"⟩
abbrev cd_Mod_passing : Cond := .code y_Mod_passing b_Mod_passing 1 (some FieldType.boolean)
abbrev b_Mod_lost : ByteArray := prog_8_method_20_code
abbrev y_Mod_lost : MethodName := ⟨"PassedTokenModel", "lost", "()Z"⟩
abbrev cd_Mod_lost : Cond := .code y_Mod_lost b_Mod_lost 1 (some FieldType.boolean)
abbrev b_Mod_polling : ByteArray := prog_8_method_21_code
abbrev y_Mod_polling : MethodName := ⟨"PassedTokenModel", "polling", "()Z"⟩
abbrev cd_Mod_polling : Cond := .code y_Mod_polling b_Mod_polling 3 (some FieldType.boolean)
abbrev b_Mod_quiet : ByteArray := prog_8_method_37_code
abbrev y_Mod_quiet : MethodName := ⟨"PassedTokenModel", "quiet", "(I)I"⟩
abbrev cd_Mod_quiet : Cond := .code y_Mod_quiet b_Mod_quiet 3 (some FieldType.int)
abbrev b_Mod_sent : ByteArray := prog_8_method_38_code
abbrev y_Mod_sent : MethodName := ⟨"PassedTokenModel", "sent", "(I)I"⟩
abbrev cd_Mod_sent : Cond := .code y_Mod_sent b_Mod_sent 2 (some FieldType.int)
abbrev b_Mod_ask : ByteArray := prog_8_method_39_code
abbrev y_Mod_ask : MethodName := ⟨"PassedTokenModel", "ask", "(IIIII)Z"⟩
abbrev cd_Mod_ask : Cond := .code y_Mod_ask b_Mod_ask 8 (some FieldType.boolean)
abbrev b_Mod_replied : ByteArray := prog_8_method_40_code
abbrev y_Mod_replied : MethodName := ⟨"PassedTokenModel", "replied", "()I"⟩
abbrev cd_Mod_replied : Cond := .code y_Mod_replied b_Mod_replied 1 (some FieldType.int)
abbrev b_Mod_reply : ByteArray := prog_8_method_41_code
abbrev y_Mod_reply : MethodName := ⟨"PassedTokenModel", "reply", "(I)I"⟩
abbrev cd_Mod_reply : Cond := .code y_Mod_reply b_Mod_reply 2 (some FieldType.int)
abbrev b_Mod_state : ByteArray := prog_8_method_42_code
abbrev y_Mod_state : MethodName := ⟨"PassedTokenModel", "state", "()I"⟩
abbrev cd_Mod_state : Cond := .code y_Mod_state b_Mod_state 1 (some FieldType.int)
abbrev b_Mod_silence : ByteArray := prog_8_method_43_code
abbrev y_Mod_silence : MethodName := ⟨"PassedTokenModel", "silence", "()I"⟩
abbrev cd_Mod_silence : Cond := .code y_Mod_silence b_Mod_silence 1 (some FieldType.int)
abbrev b_Mod_set : ByteArray := prog_8_method_44_code
abbrev y_Mod_set : MethodName := ⟨"PassedTokenModel", "set", "(IIIZ)Z"⟩
abbrev cd_Mod_set : Cond := .code y_Mod_set b_Mod_set 5 (some FieldType.boolean)
abbrev b_Mod_present : ByteArray := prog_8_method_45_code
abbrev y_Mod_present : MethodName := ⟨"PassedTokenModel", "present", "(I)I"⟩
abbrev cd_Mod_present : Cond := .code y_Mod_present b_Mod_present 2 (some FieldType.int)
end
section
/-! my own frame: one list of words for all methods, one shape of contract, one row a call. session 4 -/
def gA : List Cond := lw_tbl.filter goodWord
theorem gA_in {w : Cond} (h : w ∈ lw_tbl) (g : goodWord w = true) : w ∈ gA := List.mem_filter.mpr ⟨h, g⟩
theorem gA_goodT {c : Cond} (h : c ∈ gA) : GoodIn gA (c :: gA) := fun w hw => by
  have hm : w ∈ gA := by
    rcases List.mem_cons.mp hw with e | h1
    · rw [e]; exact h
    · exact h1
  exact ⟨hm, good_of_word (List.mem_filter.mp hm).2⟩
/-- what a walk keeps of the machine -/
def fx_C (p : Program) (s : State) (m : MethodId) (args : Array Value) (meth : Method) (c : Code) (cc : ByteArray) (own : String) (nL : Nat) : Prop :=
  p.tables.exec = Jvm.exec ∧ c.code = cc ∧ c.maxLocals = nL ∧ s.vm.findClass own = some m.cls ∧ (∀ w ∈ gA, w.before args s = true) ∧ meth.locks = false
/-- what a walk keeps of the heap -/
def fw (D : va_G) (A : Nat → Prop) (H0 : Heap) (ws : va_W) (H : Heap) (locs : List Loc) : Prop := va_P D vC ws H ∧ va_D A ws ∧ va_S A H0 H locs
def fx_P {S : Type} (D : va_G) (tys : List (ClassId × FieldType)) (wf : S → va_W) (u0 : S) (sz : Nat) (av : List Value) : Array Value → State → Prop :=
  va_Pc av (fun U => U.heap.size = sz ∧ va_P D vC (wf u0) U.heap ∧ va_K D vC tys U ∧ va_D (fun _ => True) (wf u0))
def fx_Q {S : Type} (D : va_G) (tys : List (ClassId × FieldType)) (wf : S → va_W) (r : Option Value) (u1 : S) (A : Nat → Prop) : Array Value → State → Outcome → State → Prop := fun _ st oc t =>
  (oc = .returned r ∧ va_P D vC (wf u1) t.heap ∧ va_K D vC tys t ∧ va_D A (wf u1)) ∧ va_F A st t
/-- a method's contract: from the world of u0 it answers r and leaves the world of u1; it makes no cell -/
def MX {S : Type} (l : Launch) (D : va_G) (tys : List (ClassId × FieldType)) (wf : S → va_W) (y : MethodName) (cd : Cond) (fr lo : Nat) (av : List Value) (u0 : S) (r : Option Value) (u1 : S) : Prop :=
  ∀ sz : Nat, Met l y (cd :: gA) { frames := fr, cells := 0, slots := 0, locals := lo } (fx_P D tys wf u0 sz av) (fx_Q D tys wf r u1 (va_A (wf u0) sz)) 0 0 (va_A (wf u0) sz)
theorem fx_blind {S : Type} {D : va_G} {tys : List (ClassId × FieldType)} {wf : S → va_W} {u0 : S} {sz : Nat} {av : List Value} : FrameBlind (fx_P D tys wf u0 sz av) := fun a U g mk q => by
  obtain ⟨q0, q1, qP, qK, qD⟩ := q
  exact ⟨q0, q1, qP, va_K.moved (u := U) (U := U.calling g mk a) (Vm.Alike.refl U.vm) qK, qD⟩
theorem MX.start {S : Type} {l : Launch} {D : va_G} {tys : List (ClassId × FieldType)} {wf : S → va_W} {y : MethodName} {cc : ByteArray} {nL : Nat} {ret : Option FieldType} {fr lo : Nat} {av : List Value} {u0 : S} {r : Option Value} {u1 : S}
    (hy : plainName y.cls = true) (hn : (lg_sl av).length ≤ nL)
    (body : ∀ (p : Program) (e : Env) (s : State) (m : MethodId) (below : List Frame) (meth : Method) (c : Code) (ls : Array Slot) (A : Nat → Prop), fx_C p s m av.toArray meth c cc y.cls nL → meth.sig.returnType = ret → lv_has ls nL (lv_args 0 av) → va_K D vC tys s → (∀ q, s.heap.size ≤ q → A q) → fw D A s.heap (wf u0) s.heap [] →
      W p l e { frames := fr, cells := 0, slots := 0, locals := lo } s m av.toArray below meth c s.heap [] 0 0 (MQ below (fx_Q D tys wf r u1 A) av.toArray s 0 0 A) (F0 m 0 ls [])) : MX l D tys wf y (.code y cc nL ret) fr lo av u0 r u1 := by
  intro sz
  refine Met.ofW (cc := cc) (maxL := nL) (ret := ret) hy rfl ?_
  intro p e s m args below meth c s₁ B hml hv
  obtain ⟨rfl, hsz, hP, hK, hD0⟩ := hv
  subst hsz
  have hts := atoms_spec (ws := .code y cc nL ret :: gA) B.pre
  have hown : s.vm.findClass y.cls = some m.cls := findClass_of_methodNamed B.named
  have hl := lv_entry av (n := nL) hn
  rw [lg_entry_eq]
  exact body p e s m below meth c _ _ ⟨B.exec, B.bytes, hml, hown, fun w h => hts w (List.mem_cons_of_mem _ h), B.notSynchronized⟩ B.returns hl hK (fun q h => Or.inr h) ⟨hP, hD0.self, va_S.rf⟩
/-- static facts of a callee -/
def fx_Y (y : MethodName) (bytes : ByteArray) (maxL : Nat) (ret : Option FieldType) (n : Nat) : Prop :=
  Cond.code y bytes maxL ret ∈ gA ∧ Cond.initialized y.cls ∈ gA ∧ y.cls ≠ "java/lang/invoke/MethodHandle" ∧ y.cls ≠ "java/lang/invoke/VarHandle" ∧ (parseMethodDescriptor y.desc).map (fun d => d.parameters.length) = some n
def fx_YV (y : MethodName) : Prop := Cond.instanceMethod y ∈ gA ∧ Cond.selects y.cls y y ∈ gA
section FX
variable {p : Program} {l : Launch} {e : Env} {R : Room} {s : State} {m : MethodId} {args : Array Value} {below : List Frame} {meth : Method} {c : Code} {H : Heap} {locs : List Loc} {cells slots : Nat} {Q : State → Prop}
variable {cc : ByteArray} {pc : Nat} {ls : Array Slot} {rest st0 : List Value} {D : va_G} {tys : List (ClassId × FieldType)} {A : Nat → Prop} {H0 : Heap} {ws : va_W}
theorem fx_iret {S : Type} {wf : S → va_W} {v x : Int32} {u u1 : S} {ty : FieldType} (hx : p.tables.exec = Jvm.exec) (hb : c.code = cc) (hr : meth.sig.returnType = some ty) (hn : narrow ty (.int v) = .int v) (hlk : meth.locks = false) (hK : va_K D vC tys s) (hw : fw D A s.heap (wf u) H locs) (hv : v = x) (hu : u = u1) (hdg : decode cc pc = .ok (.ireturn, 1)) :
    W p l e R s m args below meth c H locs 0 0 (MQ below (fx_Q D tys wf (some (.int x)) u1 A) args s 0 0 A) (F0 m pc ls [.int v]) := by
  subst hv; subst hu
  obtain ⟨hP, hD, hS⟩ := hw
  exact W.zret hx hb hr hn (fun t ht hW => ⟨⟨rfl, by rw [ht]; exact hP, va_K.moved hW.alike hK, hD⟩, hS.F ht⟩) hS.2.2 hdg
theorem fx_vret {S : Type} {wf : S → va_W} {u u1 : S} (hx : p.tables.exec = Jvm.exec) (hb : c.code = cc) (hr : meth.sig.returnType = none) (hlk : meth.locks = false) (hK : va_K D vC tys s) (hw : fw D A s.heap (wf u) H locs) (hu : u = u1) (hdg : decode cc pc = .ok (.return_, 1)) :
    W p l e R s m args below meth c H locs 0 0 (MQ below (fx_Q D tys wf none u1 A) args s 0 0 A) (F0 m pc ls []) := by
  subst hu
  obtain ⟨hP, hD, hS⟩ := hw
  exact W.vret hx hb hr (fun t ht hW => ⟨⟨rfl, by rw [ht]; exact hP, va_K.moved hW.alike hK, hD⟩, hS.F ht⟩) hS.2.2 hdg
theorem fx_aret {S : Type} {wf : S → va_W} {v x : Value} {u u1 : S} {rt : FieldType} (hx : p.tables.exec = Jvm.exec) (hb : c.code = cc) (hr : meth.sig.returnType = some rt) (hrt : (∃ n, rt = .object n) ∨ ∃ t, rt = .array t) (hvr : v = .null ∨ ∃ a, v = .ref a) (hlk : meth.locks = false) (hK : va_K D vC tys s) (hw : fw D A s.heap (wf u) H locs) (hv : v = x) (hu : u = u1) (hdg : decode cc pc = .ok (.areturn, 1)) :
    W p l e R s m args below meth c H locs 0 0 (MQ below (fx_Q D tys wf (some x) u1 A) args s 0 0 A) (F0 m pc ls [v]) := by
  subst hv; subst hu
  obtain ⟨hP, hD, hS⟩ := hw
  exact W.aret hx hb hr hrt hvr (fun t ht hW => ⟨⟨rfl, by rw [ht]; exact hP, va_K.moved hW.alike hK, hD⟩, hS.F ht⟩) hS.2.2 hdg
/-- behind a run of a callee -/
theorem fx_go {S : Type} {wf : S → va_W} {tysc : List (ClassId × FieldType)} {r : Option Value} {u1 : S} {A1 : Nat → Prop} {a : Array Value} {free : Addr → Prop} (hr : va_Run p l e R s m args below meth c H locs cells slots 0 0 (F0 m pc ls st0) rest (fx_Q D tysc wf r u1 A1 a) free) (hS : va_S A H0 H locs) (hA : ∀ q, A1 q → A q) (hf : ∀ q, free q → A q)
    (kk : ∀ (H1 : Heap) (locs1 : List Loc), va_P D vC (wf u1) H1 → va_D A1 (wf u1) → H.size ≤ H1.size → (∀ q : Nat, q < H.size → ¬ A1 q → H1[q]? = H[q]?) → va_S A H0 H1 locs1 → W p l e R s m args below meth c H1 locs1 cells slots Q (F0 m (pc + 3) ls (r.toList ++ rest))) : W p l e R s m args below meth c H locs cells slots Q (F0 m pc ls st0) := by
  intro T hT X
  obtain ⟨v, st₀, t, T', L, h0, X', hL, e1, e2, ⟨⟨hv, hP1, hK1, hD1⟩, hz, hk⟩, st⟩ := hr T hT X
  cases hv
  rw [h0] at hz hk
  rw [← e1] at hP1 hz
  obtain ⟨t2, a1, b1⟩ := kk T'.heap (locs ++ L) hP1 hD1 hz (fun q h1 h2 => by rw [e1]; exact hk q h1 h2)
    ⟨Nat.le_trans hS.1 hz, fun q h1 h2 => by rw [e1, hk q (Nat.lt_of_lt_of_le h1 hS.1) (fun z => h2 (hA q z))]; exact hS.2.1 q h1 h2, fun q hq => by
      rcases List.mem_append.mp hq with h | h
      · exact hS.2.2 q h
      · exact hf _ (hL q h)⟩ T' rfl X'
  exact ⟨t2, st t2 a1, b1⟩
/-- an instance method is called: the callee's world is at hand -/
theorem fx_callV0 {S : Type} {wf : S → va_W} {tysc : List (ClassId × FieldType)} {y : MethodName} {bytes : ByteArray} {maxL n nL index fr lo ci q0 b : Nat} {own : String} {ret : Option FieldType} {As : List Value} {u0 : S} {r : Option Value} {u1 : S} {q : vw_C} {fs : List Value}
    (hC : fx_C p s m args meth c cc own nL) (hls : ls.size = nL) (hM : MX l D tysc wf y (.code y bytes maxL ret) fr lo (.ref b :: As) u0 r u1) (hY : fx_Y y bytes maxL ret n) (hV : fx_YV y) (hl : Cond.methodLink own index y ∈ gA) (hR : fr + 1 ≤ R.frames ∧ 8 + (maxL + 11) + lo ≤ R.locals) (hn : As.length = n)
    (hKc : va_K D vC tysc s) (hPc : va_P D vC (wf u0) H) (hDc : va_D (fun _ => True) (wf u0)) (hFc : ∀ q, va_A (wf u0) H.size q → A q) (hS : va_S A H0 H locs) (he : (wf u0)[q0]? = some (b, .inr (ci, fs))) (hc : vC[ci]? = some q) (hq : q.1 = y.cls)
    (hst : st0 = As.reverse ++ .ref b :: rest) (hW : (rest.map fun v => v.category).sum ≤ 8) (hdg : decode cc pc = .ok (.invokevirtual index, 3)) (hcs : cells ≤ R.cells ∧ slots ≤ R.slots)
    (kk : ∀ (H1 : Heap) (locs1 : List Loc), va_P D vC (wf u1) H1 → va_D (va_A (wf u0) H.size) (wf u1) → H.size ≤ H1.size → (∀ q : Nat, q < H.size → ¬ va_A (wf u0) H.size q → H1[q]? = H[q]?) → va_S A H0 H1 locs1 → W p l e R s m args below meth c H1 locs1 cells slots Q (F0 m (pc + 3) ls (r.toList ++ rest))) : W p l e R s m args below meth c H locs cells slots Q (F0 m pc ls st0) := by
  obtain ⟨hx, hb, hml, hown, hT, hlk⟩ := hC
  obtain ⟨y1, y2, y3, y4, y5⟩ := hY
  have hrv := va_recv hKc hPc hc he
  rw [hq] at hrv
  refine fx_go (va_runV (As := As) (rest := rest) (C := y.cls) ⟨hx, hb, hml, hown, hT⟩ (hM H.size) ⟨callB_of n hT (gA_goodT y1) rfl rfl rfl (hT _ y2) (hT _ hl) ⟨y3, y4, y5⟩ hR, hT _ hV.1, hT _ hV.2⟩ ⟨fx_blind, hrv, fun U hU hW => ⟨rfl, by rw [hU], by rw [hU]; exact hPc, va_K.moved hW.alike hKc, hDc⟩⟩ rfl hn hls hst (lv_room hW) hdg ⟨hcs.1, hcs.2⟩) hS hFc hFc kk
theorem fx_callS0 {S : Type} {wf : S → va_W} {tysc : List (ClassId × FieldType)} {y : MethodName} {bytes : ByteArray} {maxL n nL index fr lo : Nat} {own : String} {ret : Option FieldType} {As : List Value} {u0 : S} {r : Option Value} {u1 : S}
    (hC : fx_C p s m args meth c cc own nL) (hls : ls.size = nL) (hM : MX l D tysc wf y (.code y bytes maxL ret) fr lo As u0 r u1) (hY : fx_Y y bytes maxL ret n) (hV : Cond.static y ∈ gA) (hl : Cond.methodLink own index y ∈ gA) (hR : fr + 1 ≤ R.frames ∧ 8 + (maxL + 11) + lo ≤ R.locals) (hn : As.length = n)
    (hKc : va_K D vC tysc s) (hPc : va_P D vC (wf u0) H) (hDc : va_D (fun _ => True) (wf u0)) (hFc : ∀ q, va_A (wf u0) H.size q → A q) (hS : va_S A H0 H locs)
    (hst : st0 = As.reverse ++ rest) (hW : (rest.map fun v => v.category).sum ≤ 8) (hdg : decode cc pc = .ok (.invokestatic index, 3)) (hcs : cells ≤ R.cells ∧ slots ≤ R.slots)
    (kk : ∀ (H1 : Heap) (locs1 : List Loc), va_P D vC (wf u1) H1 → va_D (va_A (wf u0) H.size) (wf u1) → H.size ≤ H1.size → (∀ q : Nat, q < H.size → ¬ va_A (wf u0) H.size q → H1[q]? = H[q]?) → va_S A H0 H1 locs1 → W p l e R s m args below meth c H1 locs1 cells slots Q (F0 m (pc + 3) ls (r.toList ++ rest))) : W p l e R s m args below meth c H locs cells slots Q (F0 m pc ls st0) := by
  obtain ⟨hx, hb, hml, hown, hT, hlk⟩ := hC
  obtain ⟨y1, y2, y3, y4, y5⟩ := hY
  refine fx_go (va_runS (As := As) (rest := rest) ⟨hx, hb, hml, hown, hT⟩ (hM H.size) ⟨callB_of n hT (gA_goodT y1) rfl rfl rfl (hT _ y2) (hT _ hl) ⟨y3, y4, y5⟩ hR, hT _ hV⟩ ⟨fx_blind, fun U hU hW => ⟨rfl, by rw [hU], by rw [hU]; exact hPc, va_K.moved hW.alike hKc, hDc⟩⟩ rfl hn hls hst (lv_room hW) hdg ⟨hcs.1, hcs.2⟩) hS hFc hFc kk
end FX
theorem fx_at {ws w : va_W} {is : List Nat} (hs : is.map (fun i => ws[i]?) = w.map some) (k : Nat) (q : Nat × va_E) (hq : w[k]? = some q) : ∃ i, is[k]? = some i ∧ ws[i]? = some q := by
  have h1 : (is.map (fun i => ws[i]?))[k]? = some (some q) := by rw [hs, List.getElem?_map, hq]; rfl
  rw [List.getElem?_map] at h1
  cases hi : is[k]? with
  | none => rw [hi] at h1; cases h1
  | some i => rw [hi] at h1; exact ⟨i, rfl, Option.some.inj h1⟩
theorem fx_fr {D : va_G} {A : Nat → Prop} {H0 H : Heap} {ws : va_W} {locs : List Loc} (hw : fw D A H0 ws H locs) (hA : ∀ q, H0.size ≤ q → A q) : ∀ q, va_A ws H.size q → A q := fun q h => by
  rcases h with ⟨k, e, h⟩ | h
  · exact hw.2.1.2 k (q, e) h
  · exact hA q (Nat.le_trans hw.2.2.1 h)
/-- the callee's world is the caller's -/
theorem fx_same {S : Type} {wf : S → va_W} {D : va_G} {A : Nat → Prop} {H0 H H1 : Heap} {u0 u1 : S} {locs1 : List Loc} (hF : ∀ q, va_A (wf u0) H.size q → A q) (hP : va_P D vC (wf u1) H1) (hD : va_D (va_A (wf u0) H.size) (wf u1)) (hS : va_S A H0 H1 locs1) : fw D A H0 (wf u1) H1 locs1 := ⟨hP, hD.weaken (fun _ q _ h => hF q.1 h), hS⟩

/-- pure programs: let, bind, guard -/
def k_let {α β : Type} (x : α) (k : α → Option β) : Option β := k x
def k_bd {α β : Type} (o : Option α) (k : α → Option β) : Option β := match o with
  | some a => k a
  | none => none
def k_gd {β : Type} (c : Prop) [Decidable c] (k : Option β) : Option β := if c then k else none
theorem k_bd_some {α β : Type} {o : Option α} {k : α → Option β} {r : β} (h : k_bd o k = some r) : ∃ a, o = some a ∧ k a = some r := by
  cases o with
  | none => cases h
  | some a => exact ⟨a, rfl, h⟩
theorem k_gd_some {β : Type} {c : Prop} [Decidable c] {k : Option β} {r : β} (h : k_gd c k = some r) : c ∧ k = some r := by
  unfold k_gd at h
  by_cases hc : c
  · rw [if_pos hc] at h; exact ⟨hc, h⟩
  · rw [if_neg hc] at h; cases h
theorem br1 {β : Type} {c : Prop} [Decidable c] {a b : Option β} {r : β} (hc : c) (h : (if c then a else b) = some r) : a = some r := by rwa [if_pos hc] at h
theorem br0 {β : Type} {c : Prop} [Decidable c] {a b : Option β} {r : β} (hc : ¬ c) (h : (if c then a else b) = some r) : b = some r := by rwa [if_neg hc] at h
abbrev inb (i : Int32) (n : Nat) : Prop := ¬ i < 0 ∧ i.toNatClampNeg < n
theorem inb_vp {i : Int32} {n : Nat} (h : inb i n) : vp_in i n := fun q => q.elim h.1 (fun z => absurd h.2 (Nat.not_lt.mpr z))
abbrev isz (v : Int32) : Prop := v = 0 ∨ v = 1
theorem isz_nar {v : Int32} (h : isz v) : narrow .boolean (.int v) = .int v := by rcases h with rfl | rfl <;> rfl
theorem isz_vp {v : Int32} (h : isz v) : vp_nar .boolean v = v := by rcases h with rfl | rfl <;> rfl
/-- state: int fields by number, arrays by number -/
abbrev ST : Type := (Nat → Int32) × (Nat → Nat → Int32)
def ss (u : ST) (k : Nat) (v : Int32) : ST := (fun j => if j = k then v else u.1 j, u.2)
def rs (u : ST) (k i : Nat) (v : Int32) : ST := (u.1, fun j => if j = k then upd (u.2 k) i v else u.2 j)
/-- the value of a reference to one of four things, by number; -1: none -/
def tv (ad : Nat → Nat) (a : Int32) : Value := if a = -1 then .null else .ref (ad (18 + 3 * a.toNatClampNeg))
theorem tv_none {ad : Nat → Nat} : tv ad (-1) = .null := rfl
theorem tv_some {ad : Nat → Nat} {a : Int32} (h : inb a 4) : tv ad a = .ref (ad (18 + 3 * a.toNatClampNeg)) := by
  unfold tv
  rw [if_neg]
  intro e
  subst e
  exact h.1 (by decide)
/-- the walk's goal, short -/
abbrev WX (wf : ST → va_W) (p : Program) (l : Launch) (e : Env) (fr lo : Nat) (s : State) (m : MethodId) (av : List Value) (below : List Frame) (meth : Method) (c : Code) (A : Nat → Prop) (D : va_G) (tys : List (ClassId × FieldType)) (r : Option Value) (u1 : ST) (H : Heap) (locs : List Loc) (g : JFrame) : Prop :=
  W p l e { frames := fr, cells := 0, slots := 0, locals := lo } s m av.toArray below meth c H locs 0 0 (MQ below (fx_Q D tys wf r u1 A) av.toArray s 0 0 A) g
section FY
variable {p : Program} {l : Launch} {e : Env} {R : Room} {s : State} {m : MethodId} {args : Array Value} {below : List Frame} {meth : Method} {c : Code} {H : Heap} {locs : List Loc} {cells slots : Nat} {Q : State → Prop}
variable {cc : ByteArray} {pc : Nat} {ls : Array Slot} {rest st0 : List Value} {D : va_G} {tys : List (ClassId × FieldType)} {A : Nat → Prop} {H0 : Heap} {ws : va_W}
variable {wf : ST → va_W}
/-- ends of a walk: what the pure program says -/
theorem fx_retw {own : String} {nL : Nat} {v : Int32} {u : ST} {q : Int32 × ST} {ty : FieldType} (hC : fx_C p s m args meth c cc own nL) (hr : meth.sig.returnType = some ty) (hn : narrow ty (.int v) = .int v) (hK : va_K D vC tys s) (hw : fw D A s.heap (wf u) H locs) (h : some (v, u) = some q) (hdg : decode cc pc = .ok (.ireturn, 1)) :
    W p l e R s m args below meth c H locs 0 0 (MQ below (fx_Q D tys wf (some (.int q.1)) q.2 A) args s 0 0 A) (F0 m pc ls [.int v]) := by
  cases h
  exact fx_iret hC.1 hC.2.1 hr hn hC.2.2.2.2.2 hK hw rfl rfl hdg
theorem fx_retr {own : String} {nL : Nat} {v q : Int32} {u : ST} {ty : FieldType} (hC : fx_C p s m args meth c cc own nL) (hr : meth.sig.returnType = some ty) (hn : narrow ty (.int v) = .int v) (hK : va_K D vC tys s) (hw : fw D A s.heap (wf u) H locs) (h : some v = some q) (hdg : decode cc pc = .ok (.ireturn, 1)) :
    W p l e R s m args below meth c H locs 0 0 (MQ below (fx_Q D tys wf (some (.int q)) u A) args s 0 0 A) (F0 m pc ls [.int v]) := by
  cases h
  exact fx_iret hC.1 hC.2.1 hr hn hC.2.2.2.2.2 hK hw rfl rfl hdg
theorem fx_retv {own : String} {nL : Nat} {u q : ST} (hC : fx_C p s m args meth c cc own nL) (hr : meth.sig.returnType = none) (hK : va_K D vC tys s) (hw : fw D A s.heap (wf u) H locs) (h : some u = some q) (hdg : decode cc pc = .ok (.return_, 1)) :
    W p l e R s m args below meth c H locs 0 0 (MQ below (fx_Q D tys wf none q A) args s 0 0 A) (F0 m pc ls []) := by
  cases h
  exact fx_vret hC.1 hC.2.1 hr hC.2.2.2.2.2 hK hw rfl hdg
theorem fx_reta {own : String} {nL : Nat} {u q : ST} {a : Nat} {cn : String} (hC : fx_C p s m args meth c cc own nL) (hr : meth.sig.returnType = some (.object cn)) (hK : va_K D vC tys s) (hw : fw D A s.heap (wf u) H locs) (h : some u = some q) (hdg : decode cc pc = .ok (.areturn, 1)) :
    W p l e R s m args below meth c H locs 0 0 (MQ below (fx_Q D tys wf (some (.ref a)) q A) args s 0 0 A) (F0 m pc ls [.ref a]) := by
  cases h
  exact fx_aret hC.1 hC.2.1 hr (Or.inl ⟨_, rfl⟩) (Or.inr ⟨_, rfl⟩) hC.2.2.2.2.2 hK hw rfl rfl hdg
theorem fx_rett {own : String} {nL : Nat} {u : ST} {a q : Int32} {x : Value} {cn : String} {ad : Nat → Nat} (hC : fx_C p s m args meth c cc own nL) (hr : meth.sig.returnType = some (.object cn)) (hx : tv ad a = x) (hK : va_K D vC tys s) (hw : fw D A s.heap (wf u) H locs) (h : some a = some q) (hdg : decode cc pc = .ok (.areturn, 1)) :
    W p l e R s m args below meth c H locs 0 0 (MQ below (fx_Q D tys wf (some (tv ad q)) u A) args s 0 0 A) (F0 m pc ls [x]) := by
  cases h
  subst hx
  refine fx_aret hC.1 hC.2.1 hr (Or.inl ⟨_, rfl⟩) ?_ hC.2.2.2.2.2 hK hw rfl rfl hdg
  unfold tv
  by_cases h : a = -1
  · rw [if_pos h]; exact Or.inl rfl
  · rw [if_neg h]; exact Or.inr ⟨_, rfl⟩
variable {y : MethodName} {bytes : ByteArray} {maxL n nL index fr lo ci q0 b : Nat} {own : String} {ret : Option FieldType} {As : List Value} {u0 : ST} {qc : vw_C} {fs : List Value}
/-- a call in the same world -/
theorem fx_sV {α β : Type} {F : Option α} {K : α → Option β} {z : β} (rv : α → Option Value) (su : α → ST) (hC : fx_C p s m args meth c cc own nL) (hls : ls.size = nL) (hM : ∀ q, F = some q → MX l D tys wf y (.code y bytes maxL ret) fr lo (.ref b :: As) u0 (rv q) (su q)) (hY : fx_Y y bytes maxL ret n) (hV : fx_YV y) (hl : Cond.methodLink own index y ∈ gA) (hR : fr + 1 ≤ R.frames ∧ 8 + (maxL + 11) + lo ≤ R.locals) (hn : As.length = n)
    (hK : va_K D vC tys s) (hA : ∀ q, H0.size ≤ q → A q) (hw : fw D A H0 (wf u0) H locs) (he : (wf u0)[q0]? = some (b, .inr (ci, fs))) (hc : vC[ci]? = some qc) (hq : qc.1 = y.cls) (hst : st0 = As.reverse ++ .ref b :: rest) (hW : (rest.map fun v => v.category).sum ≤ 8) (hdg : decode cc pc = .ok (.invokevirtual index, 3)) (hcs : cells ≤ R.cells ∧ slots ≤ R.slots)
    (h : k_bd F K = some z) (kk : ∀ (H1 : Heap) (locs1 : List Loc) (q : α), K q = some z → fw D A H0 (wf (su q)) H1 locs1 → W p l e R s m args below meth c H1 locs1 cells slots Q (F0 m (pc + 3) ls ((rv q).toList ++ rest))) : W p l e R s m args below meth c H locs cells slots Q (F0 m pc ls st0) := by
  obtain ⟨q, h1, h2⟩ := k_bd_some h
  exact fx_callV0 hC hls (hM q h1) hY hV hl hR hn hK hw.1 (hw.2.1.weaken (fun _ _ _ _ => trivial)) (fx_fr hw hA) hw.2.2 he hc hq hst hW hdg hcs (fun H1 locs1 hP hD _ _ hS => kk H1 locs1 q h2 (fx_same (fx_fr hw hA) hP hD hS))
theorem fx_sS {α β : Type} {F : Option α} {K : α → Option β} {z : β} (rv : α → Option Value) (su : α → ST) (hC : fx_C p s m args meth c cc own nL) (hls : ls.size = nL) (hM : ∀ q, F = some q → MX l D tys wf y (.code y bytes maxL ret) fr lo As u0 (rv q) (su q)) (hY : fx_Y y bytes maxL ret n) (hV : Cond.static y ∈ gA) (hl : Cond.methodLink own index y ∈ gA) (hR : fr + 1 ≤ R.frames ∧ 8 + (maxL + 11) + lo ≤ R.locals) (hn : As.length = n)
    (hK : va_K D vC tys s) (hA : ∀ q, H0.size ≤ q → A q) (hw : fw D A H0 (wf u0) H locs) (hst : st0 = As.reverse ++ rest) (hW : (rest.map fun v => v.category).sum ≤ 8) (hdg : decode cc pc = .ok (.invokestatic index, 3)) (hcs : cells ≤ R.cells ∧ slots ≤ R.slots)
    (h : k_bd F K = some z) (kk : ∀ (H1 : Heap) (locs1 : List Loc) (q : α), K q = some z → fw D A H0 (wf (su q)) H1 locs1 → W p l e R s m args below meth c H1 locs1 cells slots Q (F0 m (pc + 3) ls ((rv q).toList ++ rest))) : W p l e R s m args below meth c H locs cells slots Q (F0 m pc ls st0) := by
  obtain ⟨q, h1, h2⟩ := k_bd_some h
  exact fx_callS0 hC hls (hM q h1) hY hV hl hR hn hK hw.1 (hw.2.1.weaken (fun _ _ _ _ => trivial)) (fx_fr hw hA) hw.2.2 hst hW hdg hcs (fun H1 locs1 hP hD _ _ hS => kk H1 locs1 q h2 (fx_same (fx_fr hw hA) hP hD hS))
theorem fx_sVi {β : Type} {F : Option (Int32 × ST)} {K : (Int32 × ST) → Option β} {z : β} (hC : fx_C p s m args meth c cc own nL) (hls : ls.size = nL) (hM : ∀ q, F = some q → MX l D tys wf y (.code y bytes maxL ret) fr lo (.ref b :: As) u0 (some (.int q.1)) q.2) (hY : fx_Y y bytes maxL ret n) (hV : fx_YV y) (hl : Cond.methodLink own index y ∈ gA) (hR : fr + 1 ≤ R.frames ∧ 8 + (maxL + 11) + lo ≤ R.locals) (hn : As.length = n) (hK : va_K D vC tys s) (hA : ∀ q, H0.size ≤ q → A q) (hw : fw D A H0 (wf u0) H locs) (he : (wf u0)[q0]? = some (b, .inr (ci, fs))) (hc : vC[ci]? = some qc) (hq : qc.1 = y.cls) (hst : st0 = As.reverse ++ .ref b :: rest) (hW : (rest.map fun v => v.category).sum ≤ 8) (hdg : decode cc pc = .ok (.invokevirtual index, 3)) (hcs : cells ≤ R.cells ∧ slots ≤ R.slots) (h : k_bd F K = some z) (kk : ∀ (H1 : Heap) (locs1 : List Loc) (q : Int32 × ST), K q = some z → fw D A H0 (wf q.2) H1 locs1 → W p l e R s m args below meth c H1 locs1 cells slots Q (F0 m (pc + 3) ls (.int q.1 :: rest))) : W p l e R s m args below meth c H locs cells slots Q (F0 m pc ls st0) :=
  fx_sV (fun q => (some (.int q.1))) (fun q => q.2) hC hls hM hY hV hl hR hn hK hA hw he hc hq hst hW hdg hcs h kk
theorem fx_sVv {β : Type} {F : Option (ST)} {K : ST → Option β} {z : β} (hC : fx_C p s m args meth c cc own nL) (hls : ls.size = nL) (hM : ∀ q, F = some q → MX l D tys wf y (.code y bytes maxL ret) fr lo (.ref b :: As) u0 none q) (hY : fx_Y y bytes maxL ret n) (hV : fx_YV y) (hl : Cond.methodLink own index y ∈ gA) (hR : fr + 1 ≤ R.frames ∧ 8 + (maxL + 11) + lo ≤ R.locals) (hn : As.length = n) (hK : va_K D vC tys s) (hA : ∀ q, H0.size ≤ q → A q) (hw : fw D A H0 (wf u0) H locs) (he : (wf u0)[q0]? = some (b, .inr (ci, fs))) (hc : vC[ci]? = some qc) (hq : qc.1 = y.cls) (hst : st0 = As.reverse ++ .ref b :: rest) (hW : (rest.map fun v => v.category).sum ≤ 8) (hdg : decode cc pc = .ok (.invokevirtual index, 3)) (hcs : cells ≤ R.cells ∧ slots ≤ R.slots) (h : k_bd F K = some z) (kk : ∀ (H1 : Heap) (locs1 : List Loc) (q : ST), K q = some z → fw D A H0 (wf q) H1 locs1 → W p l e R s m args below meth c H1 locs1 cells slots Q (F0 m (pc + 3) ls (rest))) : W p l e R s m args below meth c H locs cells slots Q (F0 m pc ls st0) :=
  fx_sV (fun q => none) (fun q => q) hC hls hM hY hV hl hR hn hK hA hw he hc hq hst hW hdg hcs h kk
theorem fx_sVr {β : Type} {F : Option (Int32)} {K : Int32 → Option β} {z : β} (hC : fx_C p s m args meth c cc own nL) (hls : ls.size = nL) (hM : ∀ q, F = some q → MX l D tys wf y (.code y bytes maxL ret) fr lo (.ref b :: As) u0 (some (.int q)) u0) (hY : fx_Y y bytes maxL ret n) (hV : fx_YV y) (hl : Cond.methodLink own index y ∈ gA) (hR : fr + 1 ≤ R.frames ∧ 8 + (maxL + 11) + lo ≤ R.locals) (hn : As.length = n) (hK : va_K D vC tys s) (hA : ∀ q, H0.size ≤ q → A q) (hw : fw D A H0 (wf u0) H locs) (he : (wf u0)[q0]? = some (b, .inr (ci, fs))) (hc : vC[ci]? = some qc) (hq : qc.1 = y.cls) (hst : st0 = As.reverse ++ .ref b :: rest) (hW : (rest.map fun v => v.category).sum ≤ 8) (hdg : decode cc pc = .ok (.invokevirtual index, 3)) (hcs : cells ≤ R.cells ∧ slots ≤ R.slots) (h : k_bd F K = some z) (kk : ∀ (H1 : Heap) (locs1 : List Loc) (q : Int32), K q = some z → fw D A H0 (wf u0) H1 locs1 → W p l e R s m args below meth c H1 locs1 cells slots Q (F0 m (pc + 3) ls (.int q :: rest))) : W p l e R s m args below meth c H locs cells slots Q (F0 m pc ls st0) :=
  fx_sV (fun q => (some (.int q))) (fun q => u0) hC hls hM hY hV hl hR hn hK hA hw he hc hq hst hW hdg hcs h kk
theorem fx_sVa {cn : Nat} {β : Type} {F : Option (ST)} {K : ST → Option β} {z : β} (hC : fx_C p s m args meth c cc own nL) (hls : ls.size = nL) (hM : ∀ q, F = some q → MX l D tys wf y (.code y bytes maxL ret) fr lo (.ref b :: As) u0 (some (.ref cn)) q) (hY : fx_Y y bytes maxL ret n) (hV : fx_YV y) (hl : Cond.methodLink own index y ∈ gA) (hR : fr + 1 ≤ R.frames ∧ 8 + (maxL + 11) + lo ≤ R.locals) (hn : As.length = n) (hK : va_K D vC tys s) (hA : ∀ q, H0.size ≤ q → A q) (hw : fw D A H0 (wf u0) H locs) (he : (wf u0)[q0]? = some (b, .inr (ci, fs))) (hc : vC[ci]? = some qc) (hq : qc.1 = y.cls) (hst : st0 = As.reverse ++ .ref b :: rest) (hW : (rest.map fun v => v.category).sum ≤ 8) (hdg : decode cc pc = .ok (.invokevirtual index, 3)) (hcs : cells ≤ R.cells ∧ slots ≤ R.slots) (h : k_bd F K = some z) (kk : ∀ (H1 : Heap) (locs1 : List Loc) (q : ST), K q = some z → fw D A H0 (wf q) H1 locs1 → W p l e R s m args below meth c H1 locs1 cells slots Q (F0 m (pc + 3) ls (.ref cn :: rest))) : W p l e R s m args below meth c H locs cells slots Q (F0 m pc ls st0) :=
  fx_sV (fun q => (some (.ref cn))) (fun q => q) hC hls hM hY hV hl hR hn hK hA hw he hc hq hst hW hdg hcs h kk
theorem fx_sVt {ad : Nat → Nat} {β : Type} {F : Option (Int32)} {K : Int32 → Option β} {z : β} (hC : fx_C p s m args meth c cc own nL) (hls : ls.size = nL) (hM : ∀ q, F = some q → MX l D tys wf y (.code y bytes maxL ret) fr lo (.ref b :: As) u0 (some (tv ad q)) u0) (hY : fx_Y y bytes maxL ret n) (hV : fx_YV y) (hl : Cond.methodLink own index y ∈ gA) (hR : fr + 1 ≤ R.frames ∧ 8 + (maxL + 11) + lo ≤ R.locals) (hn : As.length = n) (hK : va_K D vC tys s) (hA : ∀ q, H0.size ≤ q → A q) (hw : fw D A H0 (wf u0) H locs) (he : (wf u0)[q0]? = some (b, .inr (ci, fs))) (hc : vC[ci]? = some qc) (hq : qc.1 = y.cls) (hst : st0 = As.reverse ++ .ref b :: rest) (hW : (rest.map fun v => v.category).sum ≤ 8) (hdg : decode cc pc = .ok (.invokevirtual index, 3)) (hcs : cells ≤ R.cells ∧ slots ≤ R.slots) (h : k_bd F K = some z) (kk : ∀ (H1 : Heap) (locs1 : List Loc) (q : Int32), K q = some z → fw D A H0 (wf u0) H1 locs1 → W p l e R s m args below meth c H1 locs1 cells slots Q (F0 m (pc + 3) ls (tv ad q :: rest))) : W p l e R s m args below meth c H locs cells slots Q (F0 m pc ls st0) :=
  fx_sV (fun q => (some (tv ad q))) (fun q => u0) hC hls hM hY hV hl hR hn hK hA hw he hc hq hst hW hdg hcs h kk
theorem fx_sSr {β : Type} {F : Option (Int32)} {K : Int32 → Option β} {z : β} (hC : fx_C p s m args meth c cc own nL) (hls : ls.size = nL) (hM : ∀ q, F = some q → MX l D tys wf y (.code y bytes maxL ret) fr lo As u0 (some (.int q)) u0) (hY : fx_Y y bytes maxL ret n) (hV : Cond.static y ∈ gA) (hl : Cond.methodLink own index y ∈ gA) (hR : fr + 1 ≤ R.frames ∧ 8 + (maxL + 11) + lo ≤ R.locals) (hn : As.length = n) (hK : va_K D vC tys s) (hA : ∀ q, H0.size ≤ q → A q) (hw : fw D A H0 (wf u0) H locs) (hst : st0 = As.reverse ++ rest) (hW : (rest.map fun v => v.category).sum ≤ 8) (hdg : decode cc pc = .ok (.invokestatic index, 3)) (hcs : cells ≤ R.cells ∧ slots ≤ R.slots) (h : k_bd F K = some z) (kk : ∀ (H1 : Heap) (locs1 : List Loc) (q : Int32), K q = some z → fw D A H0 (wf u0) H1 locs1 → W p l e R s m args below meth c H1 locs1 cells slots Q (F0 m (pc + 3) ls (.int q :: rest))) : W p l e R s m args below meth c H locs cells slots Q (F0 m pc ls st0) :=
  fx_sS (fun q => (some (.int q))) (fun q => u0) hC hls hM hY hV hl hR hn hK hA hw hst hW hdg hcs h kk
end FY
def us (x y : Int32) : Int32 := (x.toUInt32 >>> (y.toUInt32 &&& Int32.toUInt32 31)).toInt32
/-- a switch's way out: x is none of 0 .. n -/
theorem sw_out (n : Nat) (hn : n + 1 < 2147483648) {x : Int32} (h : ∀ k : Nat, k ≤ n → ¬ x = nI k) : x.toInt < 0 ∨ (n : Int) < x.toInt := by
  rcases pk_ix x (n := n + 1) hn with h1 | h1 | ⟨j, hj, e⟩
  · left; rw [Int32.lt_iff_toInt_lt] at h1; exact h1
  · right; rw [Int32.le_iff_toInt_le, nI_toInt (n := n + 1) hn] at h1; omega
  · exact absurd e (h j (by omega))

theorem sw_out3 {x : Int32} (h0 : ¬ x = 0) (h1 : ¬ x = 1) (h2 : ¬ x = 2) (h3 : ¬ x = 3) : x.toInt < 0 ∨ (3 : Int) < x.toInt := sw_out 3 (by decide) (fun k hk => by
  have hk2 : k = 0 ∨ k = 1 ∨ k = 2 ∨ k = 3 := by omega
  rcases hk2 with rfl | rfl | rfl | rfl
  · exact h0
  · exact h1
  · exact h2
  · exact h3)
theorem sw_out4 {x : Int32} (h0 : ¬ x = 0) (h1 : ¬ x = 1) (h2 : ¬ x = 2) (h3 : ¬ x = 3) (h4 : ¬ x = 4) : x.toInt < 0 ∨ (4 : Int) < x.toInt := sw_out 4 (by decide) (fun k hk => by
  have hk2 : k = 0 ∨ k = 1 ∨ k = 2 ∨ k = 3 ∨ k = 4 := by omega
  rcases hk2 with rfl | rfl | rfl | rfl | rfl
  · exact h0
  · exact h1
  · exact h2
  · exact h3
  · exact h4)
theorem sw_out5 {x : Int32} (h0 : ¬ x = 0) (h1 : ¬ x = 1) (h2 : ¬ x = 2) (h3 : ¬ x = 3) (h4 : ¬ x = 4) (h5 : ¬ x = 5) : x.toInt < 0 ∨ (5 : Int) < x.toInt := sw_out 5 (by decide) (fun k hk => by
  have hk2 : k = 0 ∨ k = 1 ∨ k = 2 ∨ k = 3 ∨ k = 4 ∨ k = 5 := by omega
  rcases hk2 with rfl | rfl | rfl | rfl | rfl | rfl
  · exact h0
  · exact h1
  · exact h2
  · exact h3
  · exact h4
  · exact h5)
theorem sw_out6 {x : Int32} (h0 : ¬ x = 0) (h1 : ¬ x = 1) (h2 : ¬ x = 2) (h3 : ¬ x = 3) (h4 : ¬ x = 4) (h5 : ¬ x = 5) (h6 : ¬ x = 6) : x.toInt < 0 ∨ (6 : Int) < x.toInt := sw_out 6 (by decide) (fun k hk => by
  have hk2 : k = 0 ∨ k = 1 ∨ k = 2 ∨ k = 3 ∨ k = 4 ∨ k = 5 ∨ k = 6 := by omega
  rcases hk2 with rfl | rfl | rfl | rfl | rfl | rfl | rfl
  · exact h0
  · exact h1
  · exact h2
  · exact h3
  · exact h4
  · exact h5
  · exact h6)
theorem sw_out9 {x : Int32} (h0 : ¬ x = 0) (h1 : ¬ x = 1) (h2 : ¬ x = 2) (h3 : ¬ x = 3) (h4 : ¬ x = 4) (h5 : ¬ x = 5) (h6 : ¬ x = 6) (h7 : ¬ x = 7) (h8 : ¬ x = 8) (h9 : ¬ x = 9) : x.toInt < 0 ∨ (9 : Int) < x.toInt := sw_out 9 (by decide) (fun k hk => by
  have hk2 : k = 0 ∨ k = 1 ∨ k = 2 ∨ k = 3 ∨ k = 4 ∨ k = 5 ∨ k = 6 ∨ k = 7 ∨ k = 8 ∨ k = 9 := by omega
  rcases hk2 with rfl | rfl | rfl | rfl | rfl | rfl | rfl | rfl | rfl | rfl
  · exact h0
  · exact h1
  · exact h2
  · exact h3
  · exact h4
  · exact h5
  · exact h6
  · exact h7
  · exact h8
  · exact h9)
end
section
theorem kw_0 : (Jvm.Cond.initialized "PassedTokenLaw") ∈ gA := gA_in (List.mem_of_getElem? (i := 67) (by decide +kernel)) (by decide +kernel)
theorem kw_1 : (Jvm.Cond.initialized "PassedToken") ∈ gA := gA_in (List.mem_of_getElem? (i := 68) (by decide +kernel)) (by decide +kernel)
theorem kw_2 : (Jvm.Cond.initialized "PassedToken$Row") ∈ gA := gA_in (List.mem_of_getElem? (i := 69) (by decide +kernel)) (by decide +kernel)
theorem kw_3 : (Jvm.Cond.initialized "PassedToken$Desk") ∈ gA := gA_in (List.mem_of_getElem? (i := 70) (by decide +kernel)) (by decide +kernel)
theorem kw_4 : (Jvm.Cond.initialized "PassedToken$Thing") ∈ gA := gA_in (List.mem_of_getElem? (i := 71) (by decide +kernel)) (by decide +kernel)
theorem kw_6 : (Jvm.Cond.initialized "PassedToken$Ear") ∈ gA := gA_in (List.mem_of_getElem? (i := 73) (by decide +kernel)) (by decide +kernel)
theorem kw_7 : (Jvm.Cond.initialized "PassedTokenModel") ∈ gA := gA_in (List.mem_of_getElem? (i := 74) (by decide +kernel)) (by decide +kernel)
theorem kw_8 : (Jvm.Cond.initialized "PassedToken$Check") ∈ gA := gA_in (List.mem_of_getElem? (i := 75) (by decide +kernel)) (by decide +kernel)
theorem kw_9 : (Jvm.Cond.classLink "PassedTokenLaw" 7 "PassedToken") ∈ gA := gA_in (List.mem_of_getElem? (i := 76) (by decide +kernel)) (by decide +kernel)
theorem kw_11 : (Jvm.Cond.methodLink "PassedTokenLaw" 15 ({ cls := "PassedToken", name := "<init>", desc := "(II)V" } : Jvm.MethodName)) ∈ gA := gA_in (List.mem_of_getElem? (i := 78) (by decide +kernel)) (by decide +kernel)
theorem kw_13 : (Jvm.Cond.code ({ cls := "PassedToken", name := "<init>", desc := "(II)V" } : Jvm.MethodName) prog_1_method_1_code 3 (Option.none : Option Jvm.ClassFile.FieldType)) ∈ gA := gA_in (List.mem_of_getElem? (i := 80) (by decide +kernel)) (by decide +kernel)
theorem kw_14 : (Jvm.Cond.methodLink "PassedToken" 1 ({ cls := "java/lang/Object", name := "<init>", desc := "()V" } : Jvm.MethodName)) ∈ gA := gA_in (List.mem_of_getElem? (i := 81) (by decide +kernel)) (by decide +kernel)
theorem kw_17 : (Jvm.Cond.classLink "PassedToken" 7 "PassedToken$Row") ∈ gA := gA_in (List.mem_of_getElem? (i := 84) (by decide +kernel)) (by decide +kernel)
theorem kw_19 : (Jvm.Cond.methodLink "PassedToken" 11 ({ cls := "PassedToken$Row", name := "<init>", desc := "(I)V" } : Jvm.MethodName)) ∈ gA := gA_in (List.mem_of_getElem? (i := 86) (by decide +kernel)) (by decide +kernel)
theorem kw_21 : (Jvm.Cond.code ({ cls := "PassedToken$Row", name := "<init>", desc := "(I)V" } : Jvm.MethodName) prog_5_method_1_code 2 (Option.none : Option Jvm.ClassFile.FieldType)) ∈ gA := gA_in (List.mem_of_getElem? (i := 88) (by decide +kernel)) (by decide +kernel)
theorem kw_22 : (Jvm.Cond.methodLink "PassedToken$Row" 3 ({ cls := "java/lang/Object", name := "<init>", desc := "()V" } : Jvm.MethodName)) ∈ gA := gA_in (List.mem_of_getElem? (i := 89) (by decide +kernel)) (by decide +kernel)
theorem kw_23 : (Jvm.Cond.fieldLink "PassedToken$Row" 15 "PassedToken$Row" "bytes" "[I") ∈ gA := gA_in (List.mem_of_getElem? (i := 90) (by decide +kernel)) (by decide +kernel)
theorem kw_24 : (Jvm.Cond.fieldLink "PassedToken$Row" 9 "PassedToken$Row" "count" "I") ∈ gA := gA_in (List.mem_of_getElem? (i := 91) (by decide +kernel)) (by decide +kernel)
theorem kw_31 : (Jvm.Cond.classLink "PassedToken" 27 "PassedToken$Desk") ∈ gA := gA_in (List.mem_of_getElem? (i := 98) (by decide +kernel)) (by decide +kernel)
theorem kw_33 : (Jvm.Cond.methodLink "PassedToken" 29 ({ cls := "PassedToken$Desk", name := "<init>", desc := "()V" } : Jvm.MethodName)) ∈ gA := gA_in (List.mem_of_getElem? (i := 100) (by decide +kernel)) (by decide +kernel)
theorem kw_35 : (Jvm.Cond.code ({ cls := "PassedToken$Desk", name := "<init>", desc := "()V" } : Jvm.MethodName) prog_3_method_1_code 1 (Option.none : Option Jvm.ClassFile.FieldType)) ∈ gA := gA_in (List.mem_of_getElem? (i := 102) (by decide +kernel)) (by decide +kernel)
theorem kw_36 : (Jvm.Cond.methodLink "PassedToken$Desk" 3 ({ cls := "java/lang/Object", name := "<init>", desc := "()V" } : Jvm.MethodName)) ∈ gA := gA_in (List.mem_of_getElem? (i := 103) (by decide +kernel)) (by decide +kernel)
theorem kw_37 : (Jvm.Cond.classLink "PassedToken$Desk" 9 "PassedToken$Thing") ∈ gA := gA_in (List.mem_of_getElem? (i := 104) (by decide +kernel)) (by decide +kernel)
theorem kw_39 : (Jvm.Cond.classLink "PassedToken$Desk" 17 "PassedToken$Row") ∈ gA := gA_in (List.mem_of_getElem? (i := 106) (by decide +kernel)) (by decide +kernel)
theorem kw_40 : (Jvm.Cond.methodLink "PassedToken$Desk" 19 ({ cls := "PassedToken$Row", name := "<init>", desc := "(I)V" } : Jvm.MethodName)) ∈ gA := gA_in (List.mem_of_getElem? (i := 107) (by decide +kernel)) (by decide +kernel)
theorem kw_42 : (Jvm.Cond.methodLink "PassedToken$Desk" 61 ({ cls := "PassedToken$Thing", name := "<init>", desc := "(II)V" } : Jvm.MethodName)) ∈ gA := gA_in (List.mem_of_getElem? (i := 109) (by decide +kernel)) (by decide +kernel)
theorem kw_44 : (Jvm.Cond.code ({ cls := "PassedToken$Thing", name := "<init>", desc := "(II)V" } : Jvm.MethodName) prog_6_method_1_code 3 (Option.none : Option Jvm.ClassFile.FieldType)) ∈ gA := gA_in (List.mem_of_getElem? (i := 111) (by decide +kernel)) (by decide +kernel)
theorem kw_45 : (Jvm.Cond.methodLink "PassedToken$Thing" 3 ({ cls := "java/lang/Object", name := "<init>", desc := "()V" } : Jvm.MethodName)) ∈ gA := gA_in (List.mem_of_getElem? (i := 112) (by decide +kernel)) (by decide +kernel)
theorem kw_46 : (Jvm.Cond.constant "PassedToken$Thing" 19 (4194304 : Int32)) ∈ gA := gA_in (List.mem_of_getElem? (i := 113) (by decide +kernel)) (by decide +kernel)
theorem kw_47 : (Jvm.Cond.fieldLink "PassedToken$Thing" 20 "PassedToken$Thing" "reference" "I") ∈ gA := gA_in (List.mem_of_getElem? (i := 114) (by decide +kernel)) (by decide +kernel)
theorem kw_48 : (Jvm.Cond.fieldLink "PassedToken$Thing" 24 "PassedToken$Thing" "binary" "Z") ∈ gA := gA_in (List.mem_of_getElem? (i := 115) (by decide +kernel)) (by decide +kernel)
theorem kw_49 : (Jvm.Cond.fieldLink "PassedToken$Thing" 9 "PassedToken$Thing" "values" "[I") ∈ gA := gA_in (List.mem_of_getElem? (i := 116) (by decide +kernel)) (by decide +kernel)
theorem kw_50 : (Jvm.Cond.fieldLink "PassedToken$Thing" 15 "PassedToken$Thing" "given" "[Z") ∈ gA := gA_in (List.mem_of_getElem? (i := 117) (by decide +kernel)) (by decide +kernel)
theorem kw_61 : (Jvm.Cond.fieldLink "PassedToken$Desk" 11 "PassedToken$Desk" "things" "[LPassedToken$Thing;") ∈ gA := gA_in (List.mem_of_getElem? (i := 128) (by decide +kernel)) (by decide +kernel)
theorem kw_62 : (Jvm.Cond.fieldLink "PassedToken$Desk" 22 "PassedToken$Desk" "answer" "LPassedToken$Row;") ∈ gA := gA_in (List.mem_of_getElem? (i := 129) (by decide +kernel)) (by decide +kernel)
theorem kw_63 : (Jvm.Cond.fieldLink "PassedToken$Desk" 26 "PassedToken$Desk" "asked" "LPassedToken$Row;") ∈ gA := gA_in (List.mem_of_getElem? (i := 130) (by decide +kernel)) (by decide +kernel)
theorem kw_64 : (Jvm.Cond.fieldLink "PassedToken$Desk" 29 "PassedToken$Desk" "at" "I") ∈ gA := gA_in (List.mem_of_getElem? (i := 131) (by decide +kernel)) (by decide +kernel)
theorem kw_65 : (Jvm.Cond.fieldLink "PassedToken$Desk" 33 "PassedToken$Desk" "id" "I") ∈ gA := gA_in (List.mem_of_getElem? (i := 132) (by decide +kernel)) (by decide +kernel)
theorem kw_66 : (Jvm.Cond.fieldLink "PassedToken$Desk" 36 "PassedToken$Desk" "service" "I") ∈ gA := gA_in (List.mem_of_getElem? (i := 133) (by decide +kernel)) (by decide +kernel)
theorem kw_67 : (Jvm.Cond.fieldLink "PassedToken$Desk" 39 "PassedToken$Desk" "reference" "I") ∈ gA := gA_in (List.mem_of_getElem? (i := 134) (by decide +kernel)) (by decide +kernel)
theorem kw_68 : (Jvm.Cond.fieldLink "PassedToken$Desk" 42 "PassedToken$Desk" "asksFor" "LPassedToken$Thing;") ∈ gA := gA_in (List.mem_of_getElem? (i := 135) (by decide +kernel)) (by decide +kernel)
theorem kw_69 : (Jvm.Cond.fieldLink "PassedToken$Desk" 46 "PassedToken$Desk" "property" "I") ∈ gA := gA_in (List.mem_of_getElem? (i := 136) (by decide +kernel)) (by decide +kernel)
theorem kw_70 : (Jvm.Cond.fieldLink "PassedToken$Desk" 49 "PassedToken$Desk" "index" "I") ∈ gA := gA_in (List.mem_of_getElem? (i := 137) (by decide +kernel)) (by decide +kernel)
theorem kw_71 : (Jvm.Cond.fieldLink "PassedToken$Desk" 52 "PassedToken$Desk" "writtenMark" "I") ∈ gA := gA_in (List.mem_of_getElem? (i := 138) (by decide +kernel)) (by decide +kernel)
theorem kw_72 : (Jvm.Cond.fieldLink "PassedToken$Desk" 55 "PassedToken$Desk" "writtenValue" "I") ∈ gA := gA_in (List.mem_of_getElem? (i := 139) (by decide +kernel)) (by decide +kernel)
theorem kw_73 : (Jvm.Cond.fieldLink "PassedToken$Desk" 58 "PassedToken$Desk" "rank" "I") ∈ gA := gA_in (List.mem_of_getElem? (i := 140) (by decide +kernel)) (by decide +kernel)
theorem kw_101 : (Jvm.Cond.methodLink "PassedToken" 60 ({ cls := "java/lang/Math", name := "min", desc := "(II)I" } : Jvm.MethodName)) ∈ gA := gA_in (List.mem_of_getElem? (i := 168) (by decide +kernel)) (by decide +kernel)
theorem kw_104 : (Jvm.Cond.methodLink "PassedToken" 66 ({ cls := "java/lang/Math", name := "max", desc := "(II)I" } : Jvm.MethodName)) ∈ gA := gA_in (List.mem_of_getElem? (i := 171) (by decide +kernel)) (by decide +kernel)
theorem kw_107 : (Jvm.Cond.classLink "PassedToken" 81 "PassedToken$Ear") ∈ gA := gA_in (List.mem_of_getElem? (i := 174) (by decide +kernel)) (by decide +kernel)
theorem kw_109 : (Jvm.Cond.methodLink "PassedToken" 83 ({ cls := "PassedToken$Ear", name := "<init>", desc := "(I)V" } : Jvm.MethodName)) ∈ gA := gA_in (List.mem_of_getElem? (i := 176) (by decide +kernel)) (by decide +kernel)
theorem kw_111 : (Jvm.Cond.code ({ cls := "PassedToken$Ear", name := "<init>", desc := "(I)V" } : Jvm.MethodName) prog_4_method_1_code 2 (Option.none : Option Jvm.ClassFile.FieldType)) ∈ gA := gA_in (List.mem_of_getElem? (i := 178) (by decide +kernel)) (by decide +kernel)
theorem kw_112 : (Jvm.Cond.methodLink "PassedToken$Ear" 3 ({ cls := "java/lang/Object", name := "<init>", desc := "()V" } : Jvm.MethodName)) ∈ gA := gA_in (List.mem_of_getElem? (i := 179) (by decide +kernel)) (by decide +kernel)
theorem kw_113 : (Jvm.Cond.classLink "PassedToken$Ear" 9 "PassedToken$Row") ∈ gA := gA_in (List.mem_of_getElem? (i := 180) (by decide +kernel)) (by decide +kernel)
theorem kw_114 : (Jvm.Cond.methodLink "PassedToken$Ear" 13 ({ cls := "PassedToken$Row", name := "<init>", desc := "(I)V" } : Jvm.MethodName)) ∈ gA := gA_in (List.mem_of_getElem? (i := 181) (by decide +kernel)) (by decide +kernel)
theorem kw_115 : (Jvm.Cond.fieldLink "PassedToken$Ear" 35 "PassedToken$Ear" "own" "I") ∈ gA := gA_in (List.mem_of_getElem? (i := 182) (by decide +kernel)) (by decide +kernel)
theorem kw_116 : (Jvm.Cond.fieldLink "PassedToken$Ear" 16 "PassedToken$Ear" "header" "LPassedToken$Row;") ∈ gA := gA_in (List.mem_of_getElem? (i := 183) (by decide +kernel)) (by decide +kernel)
theorem kw_117 : (Jvm.Cond.fieldLink "PassedToken$Ear" 22 "PassedToken$Ear" "data" "LPassedToken$Row;") ∈ gA := gA_in (List.mem_of_getElem? (i := 184) (by decide +kernel)) (by decide +kernel)
theorem kw_118 : (Jvm.Cond.fieldLink "PassedToken$Ear" 25 "PassedToken$Ear" "stage" "I") ∈ gA := gA_in (List.mem_of_getElem? (i := 185) (by decide +kernel)) (by decide +kernel)
theorem kw_119 : (Jvm.Cond.fieldLink "PassedToken$Ear" 29 "PassedToken$Ear" "check" "I") ∈ gA := gA_in (List.mem_of_getElem? (i := 186) (by decide +kernel)) (by decide +kernel)
theorem kw_120 : (Jvm.Cond.fieldLink "PassedToken$Ear" 32 "PassedToken$Ear" "lowCheck" "I") ∈ gA := gA_in (List.mem_of_getElem? (i := 187) (by decide +kernel)) (by decide +kernel)
theorem kw_134 : (Jvm.Cond.fieldLink "PassedToken" 72 "PassedToken" "own" "I") ∈ gA := gA_in (List.mem_of_getElem? (i := 201) (by decide +kernel)) (by decide +kernel)
theorem kw_135 : (Jvm.Cond.fieldLink "PassedToken" 69 "PassedToken" "most" "I") ∈ gA := gA_in (List.mem_of_getElem? (i := 202) (by decide +kernel)) (by decide +kernel)
theorem kw_136 : (Jvm.Cond.fieldLink "PassedToken" 84 "PassedToken" "ear" "LPassedToken$Ear;") ∈ gA := gA_in (List.mem_of_getElem? (i := 203) (by decide +kernel)) (by decide +kernel)
theorem kw_137 : (Jvm.Cond.fieldLink "PassedToken" 14 "PassedToken" "out" "LPassedToken$Row;") ∈ gA := gA_in (List.mem_of_getElem? (i := 204) (by decide +kernel)) (by decide +kernel)
theorem kw_138 : (Jvm.Cond.fieldLink "PassedToken" 18 "PassedToken" "noData" "LPassedToken$Row;") ∈ gA := gA_in (List.mem_of_getElem? (i := 205) (by decide +kernel)) (by decide +kernel)
theorem kw_139 : (Jvm.Cond.fieldLink "PassedToken" 21 "PassedToken" "request" "LPassedToken$Row;") ∈ gA := gA_in (List.mem_of_getElem? (i := 206) (by decide +kernel)) (by decide +kernel)
theorem kw_140 : (Jvm.Cond.fieldLink "PassedToken" 24 "PassedToken" "latestReply" "LPassedToken$Row;") ∈ gA := gA_in (List.mem_of_getElem? (i := 207) (by decide +kernel)) (by decide +kernel)
theorem kw_141 : (Jvm.Cond.fieldLink "PassedToken" 30 "PassedToken" "desk" "LPassedToken$Desk;") ∈ gA := gA_in (List.mem_of_getElem? (i := 208) (by decide +kernel)) (by decide +kernel)
theorem kw_142 : (Jvm.Cond.fieldLink "PassedToken" 34 "PassedToken" "mode" "I") ∈ gA := gA_in (List.mem_of_getElem? (i := 209) (by decide +kernel)) (by decide +kernel)
theorem kw_143 : (Jvm.Cond.fieldLink "PassedToken" 75 "PassedToken" "next" "I") ∈ gA := gA_in (List.mem_of_getElem? (i := 210) (by decide +kernel)) (by decide +kernel)
theorem kw_144 : (Jvm.Cond.fieldLink "PassedToken" 78 "PassedToken" "polled" "I") ∈ gA := gA_in (List.mem_of_getElem? (i := 211) (by decide +kernel)) (by decide +kernel)
theorem kw_145 : (Jvm.Cond.fieldLink "PassedToken" 38 "PassedToken" "tokens" "I") ∈ gA := gA_in (List.mem_of_getElem? (i := 212) (by decide +kernel)) (by decide +kernel)
theorem kw_146 : (Jvm.Cond.fieldLink "PassedToken" 41 "PassedToken" "tries" "I") ∈ gA := gA_in (List.mem_of_getElem? (i := 213) (by decide +kernel)) (by decide +kernel)
theorem kw_147 : (Jvm.Cond.fieldLink "PassedToken" 44 "PassedToken" "sole" "Z") ∈ gA := gA_in (List.mem_of_getElem? (i := 214) (by decide +kernel)) (by decide +kernel)
theorem kw_148 : (Jvm.Cond.fieldLink "PassedToken" 48 "PassedToken" "events" "I") ∈ gA := gA_in (List.mem_of_getElem? (i := 215) (by decide +kernel)) (by decide +kernel)
theorem kw_149 : (Jvm.Cond.fieldLink "PassedToken" 51 "PassedToken" "stillness" "I") ∈ gA := gA_in (List.mem_of_getElem? (i := 216) (by decide +kernel)) (by decide +kernel)
theorem kw_150 : (Jvm.Cond.fieldLink "PassedToken" 54 "PassedToken" "requestTo" "I") ∈ gA := gA_in (List.mem_of_getElem? (i := 217) (by decide +kernel)) (by decide +kernel)
theorem kw_151 : (Jvm.Cond.fieldLink "PassedToken" 57 "PassedToken" "requestWaits" "Z") ∈ gA := gA_in (List.mem_of_getElem? (i := 218) (by decide +kernel)) (by decide +kernel)
theorem kw_189 : (Jvm.Cond.methodLink "PassedTokenLaw" 21 ({ cls := "PassedToken", name := "hear", desc := "(I)I" } : Jvm.MethodName)) ∈ gA := gA_in (List.mem_of_getElem? (i := 256) (by decide +kernel)) (by decide +kernel)
theorem kw_190 : (Jvm.Cond.instanceMethod ({ cls := "PassedToken", name := "hear", desc := "(I)I" } : Jvm.MethodName)) ∈ gA := gA_in (List.mem_of_getElem? (i := 257) (by decide +kernel)) (by decide +kernel)
theorem kw_191 : (Jvm.Cond.selects "PassedToken" ({ cls := "PassedToken", name := "hear", desc := "(I)I" } : Jvm.MethodName) ({ cls := "PassedToken", name := "hear", desc := "(I)I" } : Jvm.MethodName)) ∈ gA := gA_in (List.mem_of_getElem? (i := 258) (by decide +kernel)) (by decide +kernel)
theorem kw_192 : (Jvm.Cond.code ({ cls := "PassedToken", name := "hear", desc := "(I)I" } : Jvm.MethodName) prog_1_method_2_code 2 (Option.some Jvm.ClassFile.FieldType.int)) ∈ gA := gA_in (List.mem_of_getElem? (i := 259) (by decide +kernel)) (by decide +kernel)
theorem kw_193 : (Jvm.Cond.methodLink "PassedToken" 88 ({ cls := "PassedToken", name := "isByte", desc := "(I)Z" } : Jvm.MethodName)) ∈ gA := gA_in (List.mem_of_getElem? (i := 260) (by decide +kernel)) (by decide +kernel)
theorem kw_194 : (Jvm.Cond.static ({ cls := "PassedToken", name := "isByte", desc := "(I)Z" } : Jvm.MethodName)) ∈ gA := gA_in (List.mem_of_getElem? (i := 261) (by decide +kernel)) (by decide +kernel)
theorem kw_195 : (Jvm.Cond.code ({ cls := "PassedToken", name := "isByte", desc := "(I)Z" } : Jvm.MethodName) prog_1_method_12_code 1 (Option.some Jvm.ClassFile.FieldType.boolean)) ∈ gA := gA_in (List.mem_of_getElem? (i := 262) (by decide +kernel)) (by decide +kernel)
theorem kw_196 : (Jvm.Cond.methodLink "PassedToken" 92 ({ cls := "PassedToken$Row", name := "clear", desc := "()V" } : Jvm.MethodName)) ∈ gA := gA_in (List.mem_of_getElem? (i := 263) (by decide +kernel)) (by decide +kernel)
theorem kw_197 : (Jvm.Cond.instanceMethod ({ cls := "PassedToken$Row", name := "clear", desc := "()V" } : Jvm.MethodName)) ∈ gA := gA_in (List.mem_of_getElem? (i := 264) (by decide +kernel)) (by decide +kernel)
theorem kw_198 : (Jvm.Cond.selects "PassedToken$Row" ({ cls := "PassedToken$Row", name := "clear", desc := "()V" } : Jvm.MethodName) ({ cls := "PassedToken$Row", name := "clear", desc := "()V" } : Jvm.MethodName)) ∈ gA := gA_in (List.mem_of_getElem? (i := 265) (by decide +kernel)) (by decide +kernel)
theorem kw_199 : (Jvm.Cond.code ({ cls := "PassedToken$Row", name := "clear", desc := "()V" } : Jvm.MethodName) prog_5_method_2_code 1 (Option.none : Option Jvm.ClassFile.FieldType)) ∈ gA := gA_in (List.mem_of_getElem? (i := 266) (by decide +kernel)) (by decide +kernel)
theorem kw_200 : (Jvm.Cond.methodLink "PassedToken" 95 ({ cls := "PassedToken$Ear", name := "take", desc := "(I)I" } : Jvm.MethodName)) ∈ gA := gA_in (List.mem_of_getElem? (i := 267) (by decide +kernel)) (by decide +kernel)
theorem kw_201 : (Jvm.Cond.instanceMethod ({ cls := "PassedToken$Ear", name := "take", desc := "(I)I" } : Jvm.MethodName)) ∈ gA := gA_in (List.mem_of_getElem? (i := 268) (by decide +kernel)) (by decide +kernel)
theorem kw_202 : (Jvm.Cond.selects "PassedToken$Ear" ({ cls := "PassedToken$Ear", name := "take", desc := "(I)I" } : Jvm.MethodName) ({ cls := "PassedToken$Ear", name := "take", desc := "(I)I" } : Jvm.MethodName)) ∈ gA := gA_in (List.mem_of_getElem? (i := 269) (by decide +kernel)) (by decide +kernel)
theorem kw_203 : (Jvm.Cond.code ({ cls := "PassedToken$Ear", name := "take", desc := "(I)I" } : Jvm.MethodName) prog_4_method_6_code 2 (Option.some Jvm.ClassFile.FieldType.int)) ∈ gA := gA_in (List.mem_of_getElem? (i := 270) (by decide +kernel)) (by decide +kernel)
theorem kw_204 : (Jvm.Cond.methodLink "PassedToken$Ear" 42 ({ cls := "PassedToken$Ear", name := "takeSecond", desc := "(I)V" } : Jvm.MethodName)) ∈ gA := gA_in (List.mem_of_getElem? (i := 271) (by decide +kernel)) (by decide +kernel)
theorem kw_206 : (Jvm.Cond.instanceMethod ({ cls := "PassedToken$Ear", name := "takeSecond", desc := "(I)V" } : Jvm.MethodName)) ∈ gA := gA_in (List.mem_of_getElem? (i := 273) (by decide +kernel)) (by decide +kernel)
theorem kw_207 : (Jvm.Cond.code ({ cls := "PassedToken$Ear", name := "takeSecond", desc := "(I)V" } : Jvm.MethodName) prog_4_method_8_code 2 (Option.none : Option Jvm.ClassFile.FieldType)) ∈ gA := gA_in (List.mem_of_getElem? (i := 274) (by decide +kernel)) (by decide +kernel)
theorem kw_208 : (Jvm.Cond.methodLink "PassedToken$Ear" 57 ({ cls := "PassedToken$Row", name := "clear", desc := "()V" } : Jvm.MethodName)) ∈ gA := gA_in (List.mem_of_getElem? (i := 275) (by decide +kernel)) (by decide +kernel)
theorem kw_209 : (Jvm.Cond.methodLink "PassedToken$Ear" 45 ({ cls := "PassedToken$Ear", name := "takeHeader", desc := "(I)V" } : Jvm.MethodName)) ∈ gA := gA_in (List.mem_of_getElem? (i := 276) (by decide +kernel)) (by decide +kernel)
theorem kw_211 : (Jvm.Cond.instanceMethod ({ cls := "PassedToken$Ear", name := "takeHeader", desc := "(I)V" } : Jvm.MethodName)) ∈ gA := gA_in (List.mem_of_getElem? (i := 278) (by decide +kernel)) (by decide +kernel)
theorem kw_212 : (Jvm.Cond.code ({ cls := "PassedToken$Ear", name := "takeHeader", desc := "(I)V" } : Jvm.MethodName) prog_4_method_9_code 2 (Option.none : Option Jvm.ClassFile.FieldType)) ∈ gA := gA_in (List.mem_of_getElem? (i := 279) (by decide +kernel)) (by decide +kernel)
theorem kw_213 : (Jvm.Cond.methodLink "PassedToken$Ear" 60 ({ cls := "PassedToken$Row", name := "put", desc := "(I)V" } : Jvm.MethodName)) ∈ gA := gA_in (List.mem_of_getElem? (i := 280) (by decide +kernel)) (by decide +kernel)
theorem kw_214 : (Jvm.Cond.instanceMethod ({ cls := "PassedToken$Row", name := "put", desc := "(I)V" } : Jvm.MethodName)) ∈ gA := gA_in (List.mem_of_getElem? (i := 281) (by decide +kernel)) (by decide +kernel)
theorem kw_215 : (Jvm.Cond.selects "PassedToken$Row" ({ cls := "PassedToken$Row", name := "put", desc := "(I)V" } : Jvm.MethodName) ({ cls := "PassedToken$Row", name := "put", desc := "(I)V" } : Jvm.MethodName)) ∈ gA := gA_in (List.mem_of_getElem? (i := 282) (by decide +kernel)) (by decide +kernel)
theorem kw_216 : (Jvm.Cond.code ({ cls := "PassedToken$Row", name := "put", desc := "(I)V" } : Jvm.MethodName) prog_5_method_5_code 2 (Option.none : Option Jvm.ClassFile.FieldType)) ∈ gA := gA_in (List.mem_of_getElem? (i := 283) (by decide +kernel)) (by decide +kernel)
theorem kw_217 : (Jvm.Cond.methodLink "PassedToken$Ear" 63 ({ cls := "PassedToken$Check", name := "withByte", desc := "(III)I" } : Jvm.MethodName)) ∈ gA := gA_in (List.mem_of_getElem? (i := 284) (by decide +kernel)) (by decide +kernel)
theorem kw_218 : (Jvm.Cond.static ({ cls := "PassedToken$Check", name := "withByte", desc := "(III)I" } : Jvm.MethodName)) ∈ gA := gA_in (List.mem_of_getElem? (i := 285) (by decide +kernel)) (by decide +kernel)
theorem kw_219 : (Jvm.Cond.code ({ cls := "PassedToken$Check", name := "withByte", desc := "(III)I" } : Jvm.MethodName) prog_2_method_4_code 5 (Option.some Jvm.ClassFile.FieldType.int)) ∈ gA := gA_in (List.mem_of_getElem? (i := 286) (by decide +kernel)) (by decide +kernel)
theorem kw_220 : (Jvm.Cond.methodLink "PassedToken$Ear" 67 ({ cls := "PassedToken$Row", name := "size", desc := "()I" } : Jvm.MethodName)) ∈ gA := gA_in (List.mem_of_getElem? (i := 287) (by decide +kernel)) (by decide +kernel)
theorem kw_221 : (Jvm.Cond.instanceMethod ({ cls := "PassedToken$Row", name := "size", desc := "()I" } : Jvm.MethodName)) ∈ gA := gA_in (List.mem_of_getElem? (i := 288) (by decide +kernel)) (by decide +kernel)
theorem kw_222 : (Jvm.Cond.selects "PassedToken$Row" ({ cls := "PassedToken$Row", name := "size", desc := "()I" } : Jvm.MethodName) ({ cls := "PassedToken$Row", name := "size", desc := "()I" } : Jvm.MethodName)) ∈ gA := gA_in (List.mem_of_getElem? (i := 289) (by decide +kernel)) (by decide +kernel)
theorem kw_223 : (Jvm.Cond.code ({ cls := "PassedToken$Row", name := "size", desc := "()I" } : Jvm.MethodName) prog_5_method_3_code 1 (Option.some Jvm.ClassFile.FieldType.int)) ∈ gA := gA_in (List.mem_of_getElem? (i := 290) (by decide +kernel)) (by decide +kernel)
theorem kw_224 : (Jvm.Cond.methodLink "PassedToken$Ear" 48 ({ cls := "PassedToken$Ear", name := "takeHeaderCheck", desc := "(I)I" } : Jvm.MethodName)) ∈ gA := gA_in (List.mem_of_getElem? (i := 291) (by decide +kernel)) (by decide +kernel)
theorem kw_226 : (Jvm.Cond.instanceMethod ({ cls := "PassedToken$Ear", name := "takeHeaderCheck", desc := "(I)I" } : Jvm.MethodName)) ∈ gA := gA_in (List.mem_of_getElem? (i := 293) (by decide +kernel)) (by decide +kernel)
theorem kw_227 : (Jvm.Cond.code ({ cls := "PassedToken$Ear", name := "takeHeaderCheck", desc := "(I)I" } : Jvm.MethodName) prog_4_method_10_code 2 (Option.some Jvm.ClassFile.FieldType.int)) ∈ gA := gA_in (List.mem_of_getElem? (i := 294) (by decide +kernel)) (by decide +kernel)
theorem kw_228 : (Jvm.Cond.methodLink "PassedToken$Ear" 71 ({ cls := "PassedToken$Ear", name := "dataBytes", desc := "()I" } : Jvm.MethodName)) ∈ gA := gA_in (List.mem_of_getElem? (i := 295) (by decide +kernel)) (by decide +kernel)
theorem kw_230 : (Jvm.Cond.instanceMethod ({ cls := "PassedToken$Ear", name := "dataBytes", desc := "()I" } : Jvm.MethodName)) ∈ gA := gA_in (List.mem_of_getElem? (i := 297) (by decide +kernel)) (by decide +kernel)
theorem kw_231 : (Jvm.Cond.code ({ cls := "PassedToken$Ear", name := "dataBytes", desc := "()I" } : Jvm.MethodName) prog_4_method_13_code 1 (Option.some Jvm.ClassFile.FieldType.int)) ∈ gA := gA_in (List.mem_of_getElem? (i := 298) (by decide +kernel)) (by decide +kernel)
theorem kw_232 : (Jvm.Cond.methodLink "PassedToken$Ear" 38 ({ cls := "PassedToken$Row", name := "at", desc := "(I)I" } : Jvm.MethodName)) ∈ gA := gA_in (List.mem_of_getElem? (i := 299) (by decide +kernel)) (by decide +kernel)
theorem kw_233 : (Jvm.Cond.instanceMethod ({ cls := "PassedToken$Row", name := "at", desc := "(I)I" } : Jvm.MethodName)) ∈ gA := gA_in (List.mem_of_getElem? (i := 300) (by decide +kernel)) (by decide +kernel)
theorem kw_234 : (Jvm.Cond.selects "PassedToken$Row" ({ cls := "PassedToken$Row", name := "at", desc := "(I)I" } : Jvm.MethodName) ({ cls := "PassedToken$Row", name := "at", desc := "(I)I" } : Jvm.MethodName)) ∈ gA := gA_in (List.mem_of_getElem? (i := 301) (by decide +kernel)) (by decide +kernel)
theorem kw_235 : (Jvm.Cond.code ({ cls := "PassedToken$Row", name := "at", desc := "(I)I" } : Jvm.MethodName) prog_5_method_4_code 2 (Option.some Jvm.ClassFile.FieldType.int)) ∈ gA := gA_in (List.mem_of_getElem? (i := 302) (by decide +kernel)) (by decide +kernel)
theorem kw_236 : (Jvm.Cond.methodLink "PassedToken$Ear" 74 ({ cls := "PassedToken$Ear", name := "ended", desc := "()I" } : Jvm.MethodName)) ∈ gA := gA_in (List.mem_of_getElem? (i := 303) (by decide +kernel)) (by decide +kernel)
theorem kw_238 : (Jvm.Cond.instanceMethod ({ cls := "PassedToken$Ear", name := "ended", desc := "()I" } : Jvm.MethodName)) ∈ gA := gA_in (List.mem_of_getElem? (i := 305) (by decide +kernel)) (by decide +kernel)
theorem kw_239 : (Jvm.Cond.code ({ cls := "PassedToken$Ear", name := "ended", desc := "()I" } : Jvm.MethodName) prog_4_method_14_code 1 (Option.some Jvm.ClassFile.FieldType.int)) ∈ gA := gA_in (List.mem_of_getElem? (i := 306) (by decide +kernel)) (by decide +kernel)
theorem kw_240 : (Jvm.Cond.methodLink "PassedToken$Ear" 79 ({ cls := "PassedToken$Ear", name := "to", desc := "()I" } : Jvm.MethodName)) ∈ gA := gA_in (List.mem_of_getElem? (i := 307) (by decide +kernel)) (by decide +kernel)
theorem kw_241 : (Jvm.Cond.instanceMethod ({ cls := "PassedToken$Ear", name := "to", desc := "()I" } : Jvm.MethodName)) ∈ gA := gA_in (List.mem_of_getElem? (i := 308) (by decide +kernel)) (by decide +kernel)
theorem kw_242 : (Jvm.Cond.selects "PassedToken$Ear" ({ cls := "PassedToken$Ear", name := "to", desc := "()I" } : Jvm.MethodName) ({ cls := "PassedToken$Ear", name := "to", desc := "()I" } : Jvm.MethodName)) ∈ gA := gA_in (List.mem_of_getElem? (i := 309) (by decide +kernel)) (by decide +kernel)
theorem kw_243 : (Jvm.Cond.code ({ cls := "PassedToken$Ear", name := "to", desc := "()I" } : Jvm.MethodName) prog_4_method_3_code 1 (Option.some Jvm.ClassFile.FieldType.int)) ∈ gA := gA_in (List.mem_of_getElem? (i := 310) (by decide +kernel)) (by decide +kernel)
theorem kw_244 : (Jvm.Cond.constant "PassedToken$Ear" 77 (65535 : Int32)) ∈ gA := gA_in (List.mem_of_getElem? (i := 311) (by decide +kernel)) (by decide +kernel)
theorem kw_245 : (Jvm.Cond.methodLink "PassedToken$Ear" 51 ({ cls := "PassedToken$Ear", name := "takeData", desc := "(I)V" } : Jvm.MethodName)) ∈ gA := gA_in (List.mem_of_getElem? (i := 312) (by decide +kernel)) (by decide +kernel)
theorem kw_247 : (Jvm.Cond.instanceMethod ({ cls := "PassedToken$Ear", name := "takeData", desc := "(I)V" } : Jvm.MethodName)) ∈ gA := gA_in (List.mem_of_getElem? (i := 314) (by decide +kernel)) (by decide +kernel)
theorem kw_248 : (Jvm.Cond.code ({ cls := "PassedToken$Ear", name := "takeData", desc := "(I)V" } : Jvm.MethodName) prog_4_method_11_code 2 (Option.none : Option Jvm.ClassFile.FieldType)) ∈ gA := gA_in (List.mem_of_getElem? (i := 315) (by decide +kernel)) (by decide +kernel)
theorem kw_249 : (Jvm.Cond.constant "PassedToken$Ear" 78 (33800 : Int32)) ∈ gA := gA_in (List.mem_of_getElem? (i := 316) (by decide +kernel)) (by decide +kernel)
theorem kw_250 : (Jvm.Cond.methodLink "PassedToken$Ear" 54 ({ cls := "PassedToken$Ear", name := "takeHighCheck", desc := "(I)I" } : Jvm.MethodName)) ∈ gA := gA_in (List.mem_of_getElem? (i := 317) (by decide +kernel)) (by decide +kernel)
theorem kw_252 : (Jvm.Cond.instanceMethod ({ cls := "PassedToken$Ear", name := "takeHighCheck", desc := "(I)I" } : Jvm.MethodName)) ∈ gA := gA_in (List.mem_of_getElem? (i := 319) (by decide +kernel)) (by decide +kernel)
theorem kw_253 : (Jvm.Cond.code ({ cls := "PassedToken$Ear", name := "takeHighCheck", desc := "(I)I" } : Jvm.MethodName) prog_4_method_12_code 2 (Option.some Jvm.ClassFile.FieldType.int)) ∈ gA := gA_in (List.mem_of_getElem? (i := 320) (by decide +kernel)) (by decide +kernel)
theorem kw_254 : (Jvm.Cond.methodLink "PassedToken" 99 ({ cls := "PassedToken", name := "settle", desc := "(I)V" } : Jvm.MethodName)) ∈ gA := gA_in (List.mem_of_getElem? (i := 321) (by decide +kernel)) (by decide +kernel)
theorem kw_256 : (Jvm.Cond.instanceMethod ({ cls := "PassedToken", name := "settle", desc := "(I)V" } : Jvm.MethodName)) ∈ gA := gA_in (List.mem_of_getElem? (i := 323) (by decide +kernel)) (by decide +kernel)
theorem kw_257 : (Jvm.Cond.code ({ cls := "PassedToken", name := "settle", desc := "(I)V" } : Jvm.MethodName) prog_1_method_15_code 5 (Option.none : Option Jvm.ClassFile.FieldType)) ∈ gA := gA_in (List.mem_of_getElem? (i := 324) (by decide +kernel)) (by decide +kernel)
theorem kw_258 : (Jvm.Cond.methodLink "PassedToken" 139 ({ cls := "PassedToken", name := "idleLine", desc := "(I)Z" } : Jvm.MethodName)) ∈ gA := gA_in (List.mem_of_getElem? (i := 325) (by decide +kernel)) (by decide +kernel)
theorem kw_260 : (Jvm.Cond.instanceMethod ({ cls := "PassedToken", name := "idleLine", desc := "(I)Z" } : Jvm.MethodName)) ∈ gA := gA_in (List.mem_of_getElem? (i := 327) (by decide +kernel)) (by decide +kernel)
theorem kw_261 : (Jvm.Cond.code ({ cls := "PassedToken", name := "idleLine", desc := "(I)Z" } : Jvm.MethodName) prog_1_method_16_code 2 (Option.some Jvm.ClassFile.FieldType.boolean)) ∈ gA := gA_in (List.mem_of_getElem? (i := 328) (by decide +kernel)) (by decide +kernel)
theorem kw_262 : (Jvm.Cond.methodLink "PassedToken" 164 ({ cls := "PassedToken$Ear", name := "to", desc := "()I" } : Jvm.MethodName)) ∈ gA := gA_in (List.mem_of_getElem? (i := 329) (by decide +kernel)) (by decide +kernel)
theorem kw_263 : (Jvm.Cond.methodLink "PassedToken" 167 ({ cls := "PassedToken$Ear", name := "type", desc := "()I" } : Jvm.MethodName)) ∈ gA := gA_in (List.mem_of_getElem? (i := 330) (by decide +kernel)) (by decide +kernel)
theorem kw_264 : (Jvm.Cond.instanceMethod ({ cls := "PassedToken$Ear", name := "type", desc := "()I" } : Jvm.MethodName)) ∈ gA := gA_in (List.mem_of_getElem? (i := 331) (by decide +kernel)) (by decide +kernel)
theorem kw_265 : (Jvm.Cond.selects "PassedToken$Ear" ({ cls := "PassedToken$Ear", name := "type", desc := "()I" } : Jvm.MethodName) ({ cls := "PassedToken$Ear", name := "type", desc := "()I" } : Jvm.MethodName)) ∈ gA := gA_in (List.mem_of_getElem? (i := 332) (by decide +kernel)) (by decide +kernel)
theorem kw_266 : (Jvm.Cond.code ({ cls := "PassedToken$Ear", name := "type", desc := "()I" } : Jvm.MethodName) prog_4_method_2_code 1 (Option.some Jvm.ClassFile.FieldType.int)) ∈ gA := gA_in (List.mem_of_getElem? (i := 333) (by decide +kernel)) (by decide +kernel)
theorem kw_267 : (Jvm.Cond.methodLink "PassedToken" 170 ({ cls := "PassedToken$Ear", name := "from", desc := "()I" } : Jvm.MethodName)) ∈ gA := gA_in (List.mem_of_getElem? (i := 334) (by decide +kernel)) (by decide +kernel)
theorem kw_268 : (Jvm.Cond.instanceMethod ({ cls := "PassedToken$Ear", name := "from", desc := "()I" } : Jvm.MethodName)) ∈ gA := gA_in (List.mem_of_getElem? (i := 335) (by decide +kernel)) (by decide +kernel)
theorem kw_269 : (Jvm.Cond.selects "PassedToken$Ear" ({ cls := "PassedToken$Ear", name := "from", desc := "()I" } : Jvm.MethodName) ({ cls := "PassedToken$Ear", name := "from", desc := "()I" } : Jvm.MethodName)) ∈ gA := gA_in (List.mem_of_getElem? (i := 336) (by decide +kernel)) (by decide +kernel)
theorem kw_270 : (Jvm.Cond.code ({ cls := "PassedToken$Ear", name := "from", desc := "()I" } : Jvm.MethodName) prog_4_method_4_code 1 (Option.some Jvm.ClassFile.FieldType.int)) ∈ gA := gA_in (List.mem_of_getElem? (i := 337) (by decide +kernel)) (by decide +kernel)
theorem kw_271 : (Jvm.Cond.methodLink "PassedToken" 173 ({ cls := "PassedToken", name := "send", desc := "(IILPassedToken$Row;)V" } : Jvm.MethodName)) ∈ gA := gA_in (List.mem_of_getElem? (i := 338) (by decide +kernel)) (by decide +kernel)
theorem kw_273 : (Jvm.Cond.instanceMethod ({ cls := "PassedToken", name := "send", desc := "(IILPassedToken$Row;)V" } : Jvm.MethodName)) ∈ gA := gA_in (List.mem_of_getElem? (i := 340) (by decide +kernel)) (by decide +kernel)
theorem kw_274 : (Jvm.Cond.code ({ cls := "PassedToken", name := "send", desc := "(IILPassedToken$Row;)V" } : Jvm.MethodName) prog_1_method_28_code 6 (Option.none : Option Jvm.ClassFile.FieldType)) ∈ gA := gA_in (List.mem_of_getElem? (i := 341) (by decide +kernel)) (by decide +kernel)
theorem kw_275 : (Jvm.Cond.methodLink "PassedToken" 116 ({ cls := "PassedToken$Row", name := "put", desc := "(I)V" } : Jvm.MethodName)) ∈ gA := gA_in (List.mem_of_getElem? (i := 342) (by decide +kernel)) (by decide +kernel)
theorem kw_276 : (Jvm.Cond.methodLink "PassedToken" 102 ({ cls := "PassedToken$Row", name := "size", desc := "()I" } : Jvm.MethodName)) ∈ gA := gA_in (List.mem_of_getElem? (i := 343) (by decide +kernel)) (by decide +kernel)
theorem kw_277 : (Jvm.Cond.methodLink "PassedToken" 204 ({ cls := "PassedToken$Check", name := "ofHeader", desc := "(LPassedToken$Row;I)I" } : Jvm.MethodName)) ∈ gA := gA_in (List.mem_of_getElem? (i := 344) (by decide +kernel)) (by decide +kernel)
theorem kw_278 : (Jvm.Cond.static ({ cls := "PassedToken$Check", name := "ofHeader", desc := "(LPassedToken$Row;I)I" } : Jvm.MethodName)) ∈ gA := gA_in (List.mem_of_getElem? (i := 345) (by decide +kernel)) (by decide +kernel)
theorem kw_279 : (Jvm.Cond.code ({ cls := "PassedToken$Check", name := "ofHeader", desc := "(LPassedToken$Row;I)I" } : Jvm.MethodName) prog_2_method_2_code 4 (Option.some Jvm.ClassFile.FieldType.int)) ∈ gA := gA_in (List.mem_of_getElem? (i := 346) (by decide +kernel)) (by decide +kernel)
theorem kw_280 : (Jvm.Cond.methodLink "PassedToken$Check" 9 ({ cls := "PassedToken$Row", name := "at", desc := "(I)I" } : Jvm.MethodName)) ∈ gA := gA_in (List.mem_of_getElem? (i := 347) (by decide +kernel)) (by decide +kernel)
theorem kw_281 : (Jvm.Cond.methodLink "PassedToken$Check" 15 ({ cls := "PassedToken$Check", name := "withByte", desc := "(III)I" } : Jvm.MethodName)) ∈ gA := gA_in (List.mem_of_getElem? (i := 348) (by decide +kernel)) (by decide +kernel)
theorem kw_282 : (Jvm.Cond.methodLink "PassedToken" 192 ({ cls := "PassedToken$Row", name := "putAll", desc := "(LPassedToken$Row;)V" } : Jvm.MethodName)) ∈ gA := gA_in (List.mem_of_getElem? (i := 349) (by decide +kernel)) (by decide +kernel)
theorem kw_283 : (Jvm.Cond.instanceMethod ({ cls := "PassedToken$Row", name := "putAll", desc := "(LPassedToken$Row;)V" } : Jvm.MethodName)) ∈ gA := gA_in (List.mem_of_getElem? (i := 350) (by decide +kernel)) (by decide +kernel)
theorem kw_284 : (Jvm.Cond.selects "PassedToken$Row" ({ cls := "PassedToken$Row", name := "putAll", desc := "(LPassedToken$Row;)V" } : Jvm.MethodName) ({ cls := "PassedToken$Row", name := "putAll", desc := "(LPassedToken$Row;)V" } : Jvm.MethodName)) ∈ gA := gA_in (List.mem_of_getElem? (i := 351) (by decide +kernel)) (by decide +kernel)
theorem kw_285 : (Jvm.Cond.code ({ cls := "PassedToken$Row", name := "putAll", desc := "(LPassedToken$Row;)V" } : Jvm.MethodName) prog_5_method_7_code 3 (Option.none : Option Jvm.ClassFile.FieldType)) ∈ gA := gA_in (List.mem_of_getElem? (i := 352) (by decide +kernel)) (by decide +kernel)
theorem kw_286 : (Jvm.Cond.methodLink "PassedToken$Row" 19 ({ cls := "PassedToken$Row", name := "put", desc := "(I)V" } : Jvm.MethodName)) ∈ gA := gA_in (List.mem_of_getElem? (i := 353) (by decide +kernel)) (by decide +kernel)
theorem kw_287 : (Jvm.Cond.methodLink "PassedToken" 210 ({ cls := "PassedToken$Check", name := "ofData", desc := "(LPassedToken$Row;)I" } : Jvm.MethodName)) ∈ gA := gA_in (List.mem_of_getElem? (i := 354) (by decide +kernel)) (by decide +kernel)
theorem kw_288 : (Jvm.Cond.static ({ cls := "PassedToken$Check", name := "ofData", desc := "(LPassedToken$Row;)I" } : Jvm.MethodName)) ∈ gA := gA_in (List.mem_of_getElem? (i := 355) (by decide +kernel)) (by decide +kernel)
theorem kw_289 : (Jvm.Cond.code ({ cls := "PassedToken$Check", name := "ofData", desc := "(LPassedToken$Row;)I" } : Jvm.MethodName) prog_2_method_3_code 3 (Option.some Jvm.ClassFile.FieldType.int)) ∈ gA := gA_in (List.mem_of_getElem? (i := 356) (by decide +kernel)) (by decide +kernel)
theorem kw_290 : (Jvm.Cond.constant "PassedToken$Check" 19 (65535 : Int32)) ∈ gA := gA_in (List.mem_of_getElem? (i := 357) (by decide +kernel)) (by decide +kernel)
theorem kw_291 : (Jvm.Cond.methodLink "PassedToken$Check" 20 ({ cls := "PassedToken$Row", name := "size", desc := "()I" } : Jvm.MethodName)) ∈ gA := gA_in (List.mem_of_getElem? (i := 358) (by decide +kernel)) (by decide +kernel)
theorem kw_292 : (Jvm.Cond.constant "PassedToken$Check" 24 (33800 : Int32)) ∈ gA := gA_in (List.mem_of_getElem? (i := 359) (by decide +kernel)) (by decide +kernel)
theorem kw_293 : (Jvm.Cond.methodLink "PassedToken" 177 ({ cls := "PassedToken$Ear", name := "data", desc := "()LPassedToken$Row;" } : Jvm.MethodName)) ∈ gA := gA_in (List.mem_of_getElem? (i := 360) (by decide +kernel)) (by decide +kernel)
theorem kw_294 : (Jvm.Cond.instanceMethod ({ cls := "PassedToken$Ear", name := "data", desc := "()LPassedToken$Row;" } : Jvm.MethodName)) ∈ gA := gA_in (List.mem_of_getElem? (i := 361) (by decide +kernel)) (by decide +kernel)
theorem kw_295 : (Jvm.Cond.selects "PassedToken$Ear" ({ cls := "PassedToken$Ear", name := "data", desc := "()LPassedToken$Row;" } : Jvm.MethodName) ({ cls := "PassedToken$Ear", name := "data", desc := "()LPassedToken$Row;" } : Jvm.MethodName)) ∈ gA := gA_in (List.mem_of_getElem? (i := 362) (by decide +kernel)) (by decide +kernel)
theorem kw_296 : (Jvm.Cond.code ({ cls := "PassedToken$Ear", name := "data", desc := "()LPassedToken$Row;" } : Jvm.MethodName) prog_4_method_5_code 1 (Option.some (Jvm.ClassFile.FieldType.object "PassedToken$Row"))) ∈ gA := gA_in (List.mem_of_getElem? (i := 363) (by decide +kernel)) (by decide +kernel)
theorem kw_297 : (Jvm.Cond.methodLink "PassedToken" 181 ({ cls := "PassedToken$Desk", name := "answerTo", desc := "(LPassedToken$Row;)LPassedToken$Row;" } : Jvm.MethodName)) ∈ gA := gA_in (List.mem_of_getElem? (i := 364) (by decide +kernel)) (by decide +kernel)
theorem kw_298 : (Jvm.Cond.instanceMethod ({ cls := "PassedToken$Desk", name := "answerTo", desc := "(LPassedToken$Row;)LPassedToken$Row;" } : Jvm.MethodName)) ∈ gA := gA_in (List.mem_of_getElem? (i := 365) (by decide +kernel)) (by decide +kernel)
theorem kw_299 : (Jvm.Cond.selects "PassedToken$Desk" ({ cls := "PassedToken$Desk", name := "answerTo", desc := "(LPassedToken$Row;)LPassedToken$Row;" } : Jvm.MethodName) ({ cls := "PassedToken$Desk", name := "answerTo", desc := "(LPassedToken$Row;)LPassedToken$Row;" } : Jvm.MethodName)) ∈ gA := gA_in (List.mem_of_getElem? (i := 366) (by decide +kernel)) (by decide +kernel)
theorem kw_300 : (Jvm.Cond.code ({ cls := "PassedToken$Desk", name := "answerTo", desc := "(LPassedToken$Row;)LPassedToken$Row;" } : Jvm.MethodName) prog_3_method_3_code 2 (Option.some (Jvm.ClassFile.FieldType.object "PassedToken$Row"))) ∈ gA := gA_in (List.mem_of_getElem? (i := 367) (by decide +kernel)) (by decide +kernel)
theorem kw_301 : (Jvm.Cond.methodLink "PassedToken$Desk" 64 ({ cls := "PassedToken$Row", name := "clear", desc := "()V" } : Jvm.MethodName)) ∈ gA := gA_in (List.mem_of_getElem? (i := 368) (by decide +kernel)) (by decide +kernel)
theorem kw_302 : (Jvm.Cond.methodLink "PassedToken$Desk" 67 ({ cls := "PassedToken$Desk", name := "isForDesk", desc := "(LPassedToken$Row;)Z" } : Jvm.MethodName)) ∈ gA := gA_in (List.mem_of_getElem? (i := 369) (by decide +kernel)) (by decide +kernel)
theorem kw_303 : (Jvm.Cond.static ({ cls := "PassedToken$Desk", name := "isForDesk", desc := "(LPassedToken$Row;)Z" } : Jvm.MethodName)) ∈ gA := gA_in (List.mem_of_getElem? (i := 370) (by decide +kernel)) (by decide +kernel)
theorem kw_304 : (Jvm.Cond.code ({ cls := "PassedToken$Desk", name := "isForDesk", desc := "(LPassedToken$Row;)Z" } : Jvm.MethodName) prog_3_method_4_code 1 (Option.some Jvm.ClassFile.FieldType.boolean)) ∈ gA := gA_in (List.mem_of_getElem? (i := 371) (by decide +kernel)) (by decide +kernel)
theorem kw_305 : (Jvm.Cond.methodLink "PassedToken$Desk" 84 ({ cls := "PassedToken$Row", name := "size", desc := "()I" } : Jvm.MethodName)) ∈ gA := gA_in (List.mem_of_getElem? (i := 372) (by decide +kernel)) (by decide +kernel)
theorem kw_306 : (Jvm.Cond.methodLink "PassedToken$Desk" 71 ({ cls := "PassedToken$Row", name := "at", desc := "(I)I" } : Jvm.MethodName)) ∈ gA := gA_in (List.mem_of_getElem? (i := 373) (by decide +kernel)) (by decide +kernel)
theorem kw_307 : (Jvm.Cond.methodLink "PassedToken$Desk" 74 ({ cls := "PassedToken$Desk", name := "begin", desc := "(II)V" } : Jvm.MethodName)) ∈ gA := gA_in (List.mem_of_getElem? (i := 374) (by decide +kernel)) (by decide +kernel)
theorem kw_309 : (Jvm.Cond.instanceMethod ({ cls := "PassedToken$Desk", name := "begin", desc := "(II)V" } : Jvm.MethodName)) ∈ gA := gA_in (List.mem_of_getElem? (i := 376) (by decide +kernel)) (by decide +kernel)
theorem kw_310 : (Jvm.Cond.code ({ cls := "PassedToken$Desk", name := "begin", desc := "(II)V" } : Jvm.MethodName) prog_3_method_6_code 3 (Option.none : Option Jvm.ClassFile.FieldType)) ∈ gA := gA_in (List.mem_of_getElem? (i := 377) (by decide +kernel)) (by decide +kernel)
theorem kw_311 : (Jvm.Cond.methodLink "PassedToken$Desk" 98 ({ cls := "PassedToken$Row", name := "put", desc := "(I)V" } : Jvm.MethodName)) ∈ gA := gA_in (List.mem_of_getElem? (i := 378) (by decide +kernel)) (by decide +kernel)
theorem kw_312 : (Jvm.Cond.methodLink "PassedToken$Desk" 77 ({ cls := "PassedToken$Desk", name := "takesPlace", desc := "()Z" } : Jvm.MethodName)) ∈ gA := gA_in (List.mem_of_getElem? (i := 379) (by decide +kernel)) (by decide +kernel)
theorem kw_314 : (Jvm.Cond.instanceMethod ({ cls := "PassedToken$Desk", name := "takesPlace", desc := "()Z" } : Jvm.MethodName)) ∈ gA := gA_in (List.mem_of_getElem? (i := 381) (by decide +kernel)) (by decide +kernel)
theorem kw_315 : (Jvm.Cond.code ({ cls := "PassedToken$Desk", name := "takesPlace", desc := "()Z" } : Jvm.MethodName) prog_3_method_7_code 1 (Option.some Jvm.ClassFile.FieldType.boolean)) ∈ gA := gA_in (List.mem_of_getElem? (i := 382) (by decide +kernel)) (by decide +kernel)
theorem kw_316 : (Jvm.Cond.methodLink "PassedToken$Desk" 110 ({ cls := "PassedToken$Desk", name := "follows", desc := "(I)Z" } : Jvm.MethodName)) ∈ gA := gA_in (List.mem_of_getElem? (i := 383) (by decide +kernel)) (by decide +kernel)
theorem kw_318 : (Jvm.Cond.instanceMethod ({ cls := "PassedToken$Desk", name := "follows", desc := "(I)Z" } : Jvm.MethodName)) ∈ gA := gA_in (List.mem_of_getElem? (i := 385) (by decide +kernel)) (by decide +kernel)
theorem kw_319 : (Jvm.Cond.code ({ cls := "PassedToken$Desk", name := "follows", desc := "(I)Z" } : Jvm.MethodName) prog_3_method_9_code 2 (Option.some Jvm.ClassFile.FieldType.boolean)) ∈ gA := gA_in (List.mem_of_getElem? (i := 386) (by decide +kernel)) (by decide +kernel)
theorem kw_320 : (Jvm.Cond.methodLink "PassedToken$Desk" 114 ({ cls := "PassedToken$Desk", name := "nextInt", desc := "()I" } : Jvm.MethodName)) ∈ gA := gA_in (List.mem_of_getElem? (i := 387) (by decide +kernel)) (by decide +kernel)
theorem kw_322 : (Jvm.Cond.instanceMethod ({ cls := "PassedToken$Desk", name := "nextInt", desc := "()I" } : Jvm.MethodName)) ∈ gA := gA_in (List.mem_of_getElem? (i := 389) (by decide +kernel)) (by decide +kernel)
theorem kw_323 : (Jvm.Cond.code ({ cls := "PassedToken$Desk", name := "nextInt", desc := "()I" } : Jvm.MethodName) prog_3_method_11_code 3 (Option.some Jvm.ClassFile.FieldType.int)) ∈ gA := gA_in (List.mem_of_getElem? (i := 390) (by decide +kernel)) (by decide +kernel)
theorem kw_324 : (Jvm.Cond.methodLink "PassedToken$Desk" 117 ({ cls := "PassedToken$Desk", name := "nextByte", desc := "()I" } : Jvm.MethodName)) ∈ gA := gA_in (List.mem_of_getElem? (i := 391) (by decide +kernel)) (by decide +kernel)
theorem kw_326 : (Jvm.Cond.instanceMethod ({ cls := "PassedToken$Desk", name := "nextByte", desc := "()I" } : Jvm.MethodName)) ∈ gA := gA_in (List.mem_of_getElem? (i := 393) (by decide +kernel)) (by decide +kernel)
theorem kw_327 : (Jvm.Cond.code ({ cls := "PassedToken$Desk", name := "nextByte", desc := "()I" } : Jvm.MethodName) prog_3_method_10_code 2 (Option.some Jvm.ClassFile.FieldType.int)) ∈ gA := gA_in (List.mem_of_getElem? (i := 394) (by decide +kernel)) (by decide +kernel)
theorem kw_328 : (Jvm.Cond.methodLink "PassedToken$Desk" 81 ({ cls := "PassedToken$Desk", name := "takesWritten", desc := "()Z" } : Jvm.MethodName)) ∈ gA := gA_in (List.mem_of_getElem? (i := 395) (by decide +kernel)) (by decide +kernel)
theorem kw_330 : (Jvm.Cond.instanceMethod ({ cls := "PassedToken$Desk", name := "takesWritten", desc := "()Z" } : Jvm.MethodName)) ∈ gA := gA_in (List.mem_of_getElem? (i := 397) (by decide +kernel)) (by decide +kernel)
theorem kw_331 : (Jvm.Cond.code ({ cls := "PassedToken$Desk", name := "takesWritten", desc := "()Z" } : Jvm.MethodName) prog_3_method_8_code 1 (Option.some Jvm.ClassFile.FieldType.boolean)) ∈ gA := gA_in (List.mem_of_getElem? (i := 398) (by decide +kernel)) (by decide +kernel)
theorem kw_332 : (Jvm.Cond.methodLink "PassedToken$Desk" 88 ({ cls := "PassedToken$Desk", name := "answerWellFormed", desc := "()V" } : Jvm.MethodName)) ∈ gA := gA_in (List.mem_of_getElem? (i := 399) (by decide +kernel)) (by decide +kernel)
theorem kw_334 : (Jvm.Cond.instanceMethod ({ cls := "PassedToken$Desk", name := "answerWellFormed", desc := "()V" } : Jvm.MethodName)) ∈ gA := gA_in (List.mem_of_getElem? (i := 401) (by decide +kernel)) (by decide +kernel)
theorem kw_335 : (Jvm.Cond.code ({ cls := "PassedToken$Desk", name := "answerWellFormed", desc := "()V" } : Jvm.MethodName) prog_3_method_5_code 2 (Option.none : Option Jvm.ClassFile.FieldType)) ∈ gA := gA_in (List.mem_of_getElem? (i := 402) (by decide +kernel)) (by decide +kernel)
theorem kw_336 : (Jvm.Cond.methodLink "PassedToken$Desk" 91 ({ cls := "PassedToken$Desk", name := "thingOf", desc := "(I)LPassedToken$Thing;" } : Jvm.MethodName)) ∈ gA := gA_in (List.mem_of_getElem? (i := 403) (by decide +kernel)) (by decide +kernel)
theorem kw_338 : (Jvm.Cond.instanceMethod ({ cls := "PassedToken$Desk", name := "thingOf", desc := "(I)LPassedToken$Thing;" } : Jvm.MethodName)) ∈ gA := gA_in (List.mem_of_getElem? (i := 405) (by decide +kernel)) (by decide +kernel)
theorem kw_339 : (Jvm.Cond.code ({ cls := "PassedToken$Desk", name := "thingOf", desc := "(I)LPassedToken$Thing;" } : Jvm.MethodName) prog_3_method_12_code 3 (Option.some (Jvm.ClassFile.FieldType.object "PassedToken$Thing"))) ∈ gA := gA_in (List.mem_of_getElem? (i := 406) (by decide +kernel)) (by decide +kernel)
theorem kw_340 : (Jvm.Cond.methodLink "PassedToken$Desk" 120 ({ cls := "PassedToken$Thing", name := "reference", desc := "()I" } : Jvm.MethodName)) ∈ gA := gA_in (List.mem_of_getElem? (i := 407) (by decide +kernel)) (by decide +kernel)
theorem kw_341 : (Jvm.Cond.instanceMethod ({ cls := "PassedToken$Thing", name := "reference", desc := "()I" } : Jvm.MethodName)) ∈ gA := gA_in (List.mem_of_getElem? (i := 408) (by decide +kernel)) (by decide +kernel)
theorem kw_342 : (Jvm.Cond.selects "PassedToken$Thing" ({ cls := "PassedToken$Thing", name := "reference", desc := "()I" } : Jvm.MethodName) ({ cls := "PassedToken$Thing", name := "reference", desc := "()I" } : Jvm.MethodName)) ∈ gA := gA_in (List.mem_of_getElem? (i := 409) (by decide +kernel)) (by decide +kernel)
theorem kw_343 : (Jvm.Cond.code ({ cls := "PassedToken$Thing", name := "reference", desc := "()I" } : Jvm.MethodName) prog_6_method_2_code 1 (Option.some Jvm.ClassFile.FieldType.int)) ∈ gA := gA_in (List.mem_of_getElem? (i := 410) (by decide +kernel)) (by decide +kernel)
theorem kw_344 : (Jvm.Cond.methodLink "PassedToken$Desk" 95 ({ cls := "PassedToken$Desk", name := "fault", desc := "()I" } : Jvm.MethodName)) ∈ gA := gA_in (List.mem_of_getElem? (i := 411) (by decide +kernel)) (by decide +kernel)
theorem kw_346 : (Jvm.Cond.instanceMethod ({ cls := "PassedToken$Desk", name := "fault", desc := "()I" } : Jvm.MethodName)) ∈ gA := gA_in (List.mem_of_getElem? (i := 413) (by decide +kernel)) (by decide +kernel)
theorem kw_347 : (Jvm.Cond.code ({ cls := "PassedToken$Desk", name := "fault", desc := "()I" } : Jvm.MethodName) prog_3_method_13_code 1 (Option.some Jvm.ClassFile.FieldType.int)) ∈ gA := gA_in (List.mem_of_getElem? (i := 414) (by decide +kernel)) (by decide +kernel)
theorem kw_348 : (Jvm.Cond.methodLink "PassedToken$Desk" 122 ({ cls := "PassedToken$Desk", name := "faultOfWrite", desc := "()I" } : Jvm.MethodName)) ∈ gA := gA_in (List.mem_of_getElem? (i := 415) (by decide +kernel)) (by decide +kernel)
theorem kw_350 : (Jvm.Cond.instanceMethod ({ cls := "PassedToken$Desk", name := "faultOfWrite", desc := "()I" } : Jvm.MethodName)) ∈ gA := gA_in (List.mem_of_getElem? (i := 417) (by decide +kernel)) (by decide +kernel)
theorem kw_351 : (Jvm.Cond.code ({ cls := "PassedToken$Desk", name := "faultOfWrite", desc := "()I" } : Jvm.MethodName) prog_3_method_14_code 1 (Option.some Jvm.ClassFile.FieldType.int)) ∈ gA := gA_in (List.mem_of_getElem? (i := 418) (by decide +kernel)) (by decide +kernel)
theorem kw_352 : (Jvm.Cond.methodLink "PassedToken$Desk" 125 ({ cls := "PassedToken$Thing", name := "isBinary", desc := "()Z" } : Jvm.MethodName)) ∈ gA := gA_in (List.mem_of_getElem? (i := 419) (by decide +kernel)) (by decide +kernel)
theorem kw_353 : (Jvm.Cond.instanceMethod ({ cls := "PassedToken$Thing", name := "isBinary", desc := "()Z" } : Jvm.MethodName)) ∈ gA := gA_in (List.mem_of_getElem? (i := 420) (by decide +kernel)) (by decide +kernel)
theorem kw_354 : (Jvm.Cond.selects "PassedToken$Thing" ({ cls := "PassedToken$Thing", name := "isBinary", desc := "()Z" } : Jvm.MethodName) ({ cls := "PassedToken$Thing", name := "isBinary", desc := "()Z" } : Jvm.MethodName)) ∈ gA := gA_in (List.mem_of_getElem? (i := 421) (by decide +kernel)) (by decide +kernel)
theorem kw_355 : (Jvm.Cond.code ({ cls := "PassedToken$Thing", name := "isBinary", desc := "()Z" } : Jvm.MethodName) prog_6_method_3_code 1 (Option.some Jvm.ClassFile.FieldType.boolean)) ∈ gA := gA_in (List.mem_of_getElem? (i := 422) (by decide +kernel)) (by decide +kernel)
theorem kw_356 : (Jvm.Cond.methodLink "PassedToken$Desk" 128 ({ cls := "PassedToken$Thing", name := "takes", desc := "(I)Z" } : Jvm.MethodName)) ∈ gA := gA_in (List.mem_of_getElem? (i := 423) (by decide +kernel)) (by decide +kernel)
theorem kw_357 : (Jvm.Cond.instanceMethod ({ cls := "PassedToken$Thing", name := "takes", desc := "(I)Z" } : Jvm.MethodName)) ∈ gA := gA_in (List.mem_of_getElem? (i := 424) (by decide +kernel)) (by decide +kernel)
theorem kw_358 : (Jvm.Cond.selects "PassedToken$Thing" ({ cls := "PassedToken$Thing", name := "takes", desc := "(I)Z" } : Jvm.MethodName) ({ cls := "PassedToken$Thing", name := "takes", desc := "(I)Z" } : Jvm.MethodName)) ∈ gA := gA_in (List.mem_of_getElem? (i := 425) (by decide +kernel)) (by decide +kernel)
theorem kw_359 : (Jvm.Cond.code ({ cls := "PassedToken$Thing", name := "takes", desc := "(I)Z" } : Jvm.MethodName) prog_6_method_6_code 2 (Option.some Jvm.ClassFile.FieldType.boolean)) ∈ gA := gA_in (List.mem_of_getElem? (i := 426) (by decide +kernel)) (by decide +kernel)
theorem kw_360 : (Jvm.Cond.methodLink "PassedToken$Desk" 101 ({ cls := "PassedToken$Desk", name := "write", desc := "()V" } : Jvm.MethodName)) ∈ gA := gA_in (List.mem_of_getElem? (i := 427) (by decide +kernel)) (by decide +kernel)
theorem kw_362 : (Jvm.Cond.instanceMethod ({ cls := "PassedToken$Desk", name := "write", desc := "()V" } : Jvm.MethodName)) ∈ gA := gA_in (List.mem_of_getElem? (i := 429) (by decide +kernel)) (by decide +kernel)
theorem kw_363 : (Jvm.Cond.code ({ cls := "PassedToken$Desk", name := "write", desc := "()V" } : Jvm.MethodName) prog_3_method_15_code 1 (Option.none : Option Jvm.ClassFile.FieldType)) ∈ gA := gA_in (List.mem_of_getElem? (i := 430) (by decide +kernel)) (by decide +kernel)
theorem kw_364 : (Jvm.Cond.methodLink "PassedToken$Desk" 131 ({ cls := "PassedToken$Thing", name := "takeAway", desc := "(I)Z" } : Jvm.MethodName)) ∈ gA := gA_in (List.mem_of_getElem? (i := 431) (by decide +kernel)) (by decide +kernel)
theorem kw_365 : (Jvm.Cond.instanceMethod ({ cls := "PassedToken$Thing", name := "takeAway", desc := "(I)Z" } : Jvm.MethodName)) ∈ gA := gA_in (List.mem_of_getElem? (i := 432) (by decide +kernel)) (by decide +kernel)
theorem kw_366 : (Jvm.Cond.selects "PassedToken$Thing" ({ cls := "PassedToken$Thing", name := "takeAway", desc := "(I)Z" } : Jvm.MethodName) ({ cls := "PassedToken$Thing", name := "takeAway", desc := "(I)Z" } : Jvm.MethodName)) ∈ gA := gA_in (List.mem_of_getElem? (i := 433) (by decide +kernel)) (by decide +kernel)
theorem kw_367 : (Jvm.Cond.code ({ cls := "PassedToken$Thing", name := "takeAway", desc := "(I)Z" } : Jvm.MethodName) prog_6_method_8_code 2 (Option.some Jvm.ClassFile.FieldType.boolean)) ∈ gA := gA_in (List.mem_of_getElem? (i := 434) (by decide +kernel)) (by decide +kernel)
theorem kw_368 : (Jvm.Cond.methodLink "PassedToken$Desk" 134 ({ cls := "PassedToken$Thing", name := "give", desc := "(II)Z" } : Jvm.MethodName)) ∈ gA := gA_in (List.mem_of_getElem? (i := 435) (by decide +kernel)) (by decide +kernel)
theorem kw_369 : (Jvm.Cond.instanceMethod ({ cls := "PassedToken$Thing", name := "give", desc := "(II)Z" } : Jvm.MethodName)) ∈ gA := gA_in (List.mem_of_getElem? (i := 436) (by decide +kernel)) (by decide +kernel)
theorem kw_370 : (Jvm.Cond.selects "PassedToken$Thing" ({ cls := "PassedToken$Thing", name := "give", desc := "(II)Z" } : Jvm.MethodName) ({ cls := "PassedToken$Thing", name := "give", desc := "(II)Z" } : Jvm.MethodName)) ∈ gA := gA_in (List.mem_of_getElem? (i := 437) (by decide +kernel)) (by decide +kernel)
theorem kw_371 : (Jvm.Cond.code ({ cls := "PassedToken$Thing", name := "give", desc := "(II)Z" } : Jvm.MethodName) prog_6_method_7_code 3 (Option.some Jvm.ClassFile.FieldType.boolean)) ∈ gA := gA_in (List.mem_of_getElem? (i := 438) (by decide +kernel)) (by decide +kernel)
theorem kw_372 : (Jvm.Cond.methodLink "PassedToken$Thing" 28 ({ cls := "PassedToken$Thing", name := "takes", desc := "(I)Z" } : Jvm.MethodName)) ∈ gA := gA_in (List.mem_of_getElem? (i := 439) (by decide +kernel)) (by decide +kernel)
theorem kw_373 : (Jvm.Cond.methodLink "PassedToken$Desk" 104 ({ cls := "PassedToken$Desk", name := "tellPlace", desc := "()V" } : Jvm.MethodName)) ∈ gA := gA_in (List.mem_of_getElem? (i := 440) (by decide +kernel)) (by decide +kernel)
theorem kw_375 : (Jvm.Cond.instanceMethod ({ cls := "PassedToken$Desk", name := "tellPlace", desc := "()V" } : Jvm.MethodName)) ∈ gA := gA_in (List.mem_of_getElem? (i := 442) (by decide +kernel)) (by decide +kernel)
theorem kw_376 : (Jvm.Cond.code ({ cls := "PassedToken$Desk", name := "tellPlace", desc := "()V" } : Jvm.MethodName) prog_3_method_16_code 1 (Option.none : Option Jvm.ClassFile.FieldType)) ∈ gA := gA_in (List.mem_of_getElem? (i := 443) (by decide +kernel)) (by decide +kernel)
theorem kw_377 : (Jvm.Cond.methodLink "PassedToken$Desk" 138 ({ cls := "PassedToken$Row", name := "putInt", desc := "(I)V" } : Jvm.MethodName)) ∈ gA := gA_in (List.mem_of_getElem? (i := 444) (by decide +kernel)) (by decide +kernel)
theorem kw_378 : (Jvm.Cond.instanceMethod ({ cls := "PassedToken$Row", name := "putInt", desc := "(I)V" } : Jvm.MethodName)) ∈ gA := gA_in (List.mem_of_getElem? (i := 445) (by decide +kernel)) (by decide +kernel)
theorem kw_379 : (Jvm.Cond.selects "PassedToken$Row" ({ cls := "PassedToken$Row", name := "putInt", desc := "(I)V" } : Jvm.MethodName) ({ cls := "PassedToken$Row", name := "putInt", desc := "(I)V" } : Jvm.MethodName)) ∈ gA := gA_in (List.mem_of_getElem? (i := 446) (by decide +kernel)) (by decide +kernel)
theorem kw_380 : (Jvm.Cond.code ({ cls := "PassedToken$Row", name := "putInt", desc := "(I)V" } : Jvm.MethodName) prog_5_method_6_code 2 (Option.none : Option Jvm.ClassFile.FieldType)) ∈ gA := gA_in (List.mem_of_getElem? (i := 447) (by decide +kernel)) (by decide +kernel)
theorem kw_381 : (Jvm.Cond.methodLink "PassedToken$Desk" 107 ({ cls := "PassedToken$Desk", name := "tellProperty", desc := "()V" } : Jvm.MethodName)) ∈ gA := gA_in (List.mem_of_getElem? (i := 448) (by decide +kernel)) (by decide +kernel)
theorem kw_383 : (Jvm.Cond.instanceMethod ({ cls := "PassedToken$Desk", name := "tellProperty", desc := "()V" } : Jvm.MethodName)) ∈ gA := gA_in (List.mem_of_getElem? (i := 450) (by decide +kernel)) (by decide +kernel)
theorem kw_384 : (Jvm.Cond.code ({ cls := "PassedToken$Desk", name := "tellProperty", desc := "()V" } : Jvm.MethodName) prog_3_method_17_code 1 (Option.none : Option Jvm.ClassFile.FieldType)) ∈ gA := gA_in (List.mem_of_getElem? (i := 451) (by decide +kernel)) (by decide +kernel)
theorem kw_385 : (Jvm.Cond.methodLink "PassedToken$Desk" 141 ({ cls := "PassedToken$Thing", name := "isGiven", desc := "(I)Z" } : Jvm.MethodName)) ∈ gA := gA_in (List.mem_of_getElem? (i := 452) (by decide +kernel)) (by decide +kernel)
theorem kw_386 : (Jvm.Cond.instanceMethod ({ cls := "PassedToken$Thing", name := "isGiven", desc := "(I)Z" } : Jvm.MethodName)) ∈ gA := gA_in (List.mem_of_getElem? (i := 453) (by decide +kernel)) (by decide +kernel)
theorem kw_387 : (Jvm.Cond.selects "PassedToken$Thing" ({ cls := "PassedToken$Thing", name := "isGiven", desc := "(I)Z" } : Jvm.MethodName) ({ cls := "PassedToken$Thing", name := "isGiven", desc := "(I)Z" } : Jvm.MethodName)) ∈ gA := gA_in (List.mem_of_getElem? (i := 454) (by decide +kernel)) (by decide +kernel)
theorem kw_388 : (Jvm.Cond.code ({ cls := "PassedToken$Thing", name := "isGiven", desc := "(I)Z" } : Jvm.MethodName) prog_6_method_4_code 2 (Option.some Jvm.ClassFile.FieldType.boolean)) ∈ gA := gA_in (List.mem_of_getElem? (i := 455) (by decide +kernel)) (by decide +kernel)
theorem kw_389 : (Jvm.Cond.methodLink "PassedToken$Desk" 144 ({ cls := "PassedToken$Desk", name := "valueRead", desc := "()I" } : Jvm.MethodName)) ∈ gA := gA_in (List.mem_of_getElem? (i := 456) (by decide +kernel)) (by decide +kernel)
theorem kw_391 : (Jvm.Cond.instanceMethod ({ cls := "PassedToken$Desk", name := "valueRead", desc := "()I" } : Jvm.MethodName)) ∈ gA := gA_in (List.mem_of_getElem? (i := 458) (by decide +kernel)) (by decide +kernel)
theorem kw_392 : (Jvm.Cond.code ({ cls := "PassedToken$Desk", name := "valueRead", desc := "()I" } : Jvm.MethodName) prog_3_method_18_code 1 (Option.some Jvm.ClassFile.FieldType.int)) ∈ gA := gA_in (List.mem_of_getElem? (i := 459) (by decide +kernel)) (by decide +kernel)
theorem kw_393 : (Jvm.Cond.methodLink "PassedToken$Desk" 147 ({ cls := "PassedToken$Thing", name := "shown", desc := "()I" } : Jvm.MethodName)) ∈ gA := gA_in (List.mem_of_getElem? (i := 460) (by decide +kernel)) (by decide +kernel)
theorem kw_394 : (Jvm.Cond.instanceMethod ({ cls := "PassedToken$Thing", name := "shown", desc := "()I" } : Jvm.MethodName)) ∈ gA := gA_in (List.mem_of_getElem? (i := 461) (by decide +kernel)) (by decide +kernel)
theorem kw_395 : (Jvm.Cond.selects "PassedToken$Thing" ({ cls := "PassedToken$Thing", name := "shown", desc := "()I" } : Jvm.MethodName) ({ cls := "PassedToken$Thing", name := "shown", desc := "()I" } : Jvm.MethodName)) ∈ gA := gA_in (List.mem_of_getElem? (i := 462) (by decide +kernel)) (by decide +kernel)
theorem kw_396 : (Jvm.Cond.code ({ cls := "PassedToken$Thing", name := "shown", desc := "()I" } : Jvm.MethodName) prog_6_method_9_code 2 (Option.some Jvm.ClassFile.FieldType.int)) ∈ gA := gA_in (List.mem_of_getElem? (i := 463) (by decide +kernel)) (by decide +kernel)
theorem kw_397 : (Jvm.Cond.methodLink "PassedToken$Desk" 150 ({ cls := "PassedToken$Thing", name := "valueOf", desc := "(I)I" } : Jvm.MethodName)) ∈ gA := gA_in (List.mem_of_getElem? (i := 464) (by decide +kernel)) (by decide +kernel)
theorem kw_398 : (Jvm.Cond.instanceMethod ({ cls := "PassedToken$Thing", name := "valueOf", desc := "(I)I" } : Jvm.MethodName)) ∈ gA := gA_in (List.mem_of_getElem? (i := 465) (by decide +kernel)) (by decide +kernel)
theorem kw_399 : (Jvm.Cond.selects "PassedToken$Thing" ({ cls := "PassedToken$Thing", name := "valueOf", desc := "(I)I" } : Jvm.MethodName) ({ cls := "PassedToken$Thing", name := "valueOf", desc := "(I)I" } : Jvm.MethodName)) ∈ gA := gA_in (List.mem_of_getElem? (i := 466) (by decide +kernel)) (by decide +kernel)
theorem kw_400 : (Jvm.Cond.code ({ cls := "PassedToken$Thing", name := "valueOf", desc := "(I)I" } : Jvm.MethodName) prog_6_method_5_code 2 (Option.some Jvm.ClassFile.FieldType.int)) ∈ gA := gA_in (List.mem_of_getElem? (i := 467) (by decide +kernel)) (by decide +kernel)
theorem kw_401 : (Jvm.Cond.methodLink "PassedToken" 185 ({ cls := "PassedToken", name := "sendAnswer", desc := "(LPassedToken$Row;)V" } : Jvm.MethodName)) ∈ gA := gA_in (List.mem_of_getElem? (i := 468) (by decide +kernel)) (by decide +kernel)
theorem kw_403 : (Jvm.Cond.instanceMethod ({ cls := "PassedToken", name := "sendAnswer", desc := "(LPassedToken$Row;)V" } : Jvm.MethodName)) ∈ gA := gA_in (List.mem_of_getElem? (i := 470) (by decide +kernel)) (by decide +kernel)
theorem kw_404 : (Jvm.Cond.code ({ cls := "PassedToken", name := "sendAnswer", desc := "(LPassedToken$Row;)V" } : Jvm.MethodName) prog_1_method_27_code 2 (Option.none : Option Jvm.ClassFile.FieldType)) ∈ gA := gA_in (List.mem_of_getElem? (i := 471) (by decide +kernel)) (by decide +kernel)
theorem kw_405 : (Jvm.Cond.methodLink "PassedToken" 142 ({ cls := "PassedToken", name := "useLine", desc := "()Z" } : Jvm.MethodName)) ∈ gA := gA_in (List.mem_of_getElem? (i := 472) (by decide +kernel)) (by decide +kernel)
theorem kw_407 : (Jvm.Cond.instanceMethod ({ cls := "PassedToken", name := "useLine", desc := "()Z" } : Jvm.MethodName)) ∈ gA := gA_in (List.mem_of_getElem? (i := 474) (by decide +kernel)) (by decide +kernel)
theorem kw_408 : (Jvm.Cond.code ({ cls := "PassedToken", name := "useLine", desc := "()Z" } : Jvm.MethodName) prog_1_method_17_code 1 (Option.some Jvm.ClassFile.FieldType.boolean)) ∈ gA := gA_in (List.mem_of_getElem? (i := 475) (by decide +kernel)) (by decide +kernel)
theorem kw_409 : (Jvm.Cond.methodLink "PassedToken" 146 ({ cls := "PassedToken", name := "waitLine", desc := "(I)Z" } : Jvm.MethodName)) ∈ gA := gA_in (List.mem_of_getElem? (i := 476) (by decide +kernel)) (by decide +kernel)
theorem kw_411 : (Jvm.Cond.instanceMethod ({ cls := "PassedToken", name := "waitLine", desc := "(I)Z" } : Jvm.MethodName)) ∈ gA := gA_in (List.mem_of_getElem? (i := 478) (by decide +kernel)) (by decide +kernel)
theorem kw_412 : (Jvm.Cond.code ({ cls := "PassedToken", name := "waitLine", desc := "(I)Z" } : Jvm.MethodName) prog_1_method_18_code 2 (Option.some Jvm.ClassFile.FieldType.boolean)) ∈ gA := gA_in (List.mem_of_getElem? (i := 479) (by decide +kernel)) (by decide +kernel)
theorem kw_413 : (Jvm.Cond.methodLink "PassedToken" 189 ({ cls := "PassedToken", name := "endsWaiting", desc := "()Z" } : Jvm.MethodName)) ∈ gA := gA_in (List.mem_of_getElem? (i := 480) (by decide +kernel)) (by decide +kernel)
theorem kw_415 : (Jvm.Cond.instanceMethod ({ cls := "PassedToken", name := "endsWaiting", desc := "()Z" } : Jvm.MethodName)) ∈ gA := gA_in (List.mem_of_getElem? (i := 482) (by decide +kernel)) (by decide +kernel)
theorem kw_416 : (Jvm.Cond.code ({ cls := "PassedToken", name := "endsWaiting", desc := "()Z" } : Jvm.MethodName) prog_1_method_19_code 1 (Option.some Jvm.ClassFile.FieldType.boolean)) ∈ gA := gA_in (List.mem_of_getElem? (i := 483) (by decide +kernel)) (by decide +kernel)
theorem kw_417 : (Jvm.Cond.methodLink "PassedToken" 149 ({ cls := "PassedToken", name := "doneLine", desc := "()Z" } : Jvm.MethodName)) ∈ gA := gA_in (List.mem_of_getElem? (i := 484) (by decide +kernel)) (by decide +kernel)
theorem kw_419 : (Jvm.Cond.instanceMethod ({ cls := "PassedToken", name := "doneLine", desc := "()Z" } : Jvm.MethodName)) ∈ gA := gA_in (List.mem_of_getElem? (i := 486) (by decide +kernel)) (by decide +kernel)
theorem kw_420 : (Jvm.Cond.code ({ cls := "PassedToken", name := "doneLine", desc := "()Z" } : Jvm.MethodName) prog_1_method_20_code 1 (Option.some Jvm.ClassFile.FieldType.boolean)) ∈ gA := gA_in (List.mem_of_getElem? (i := 487) (by decide +kernel)) (by decide +kernel)
theorem kw_421 : (Jvm.Cond.methodLink "PassedToken" 195 ({ cls := "PassedToken", name := "behind", desc := "(I)I" } : Jvm.MethodName)) ∈ gA := gA_in (List.mem_of_getElem? (i := 488) (by decide +kernel)) (by decide +kernel)
theorem kw_423 : (Jvm.Cond.instanceMethod ({ cls := "PassedToken", name := "behind", desc := "(I)I" } : Jvm.MethodName)) ∈ gA := gA_in (List.mem_of_getElem? (i := 490) (by decide +kernel)) (by decide +kernel)
theorem kw_424 : (Jvm.Cond.code ({ cls := "PassedToken", name := "behind", desc := "(I)I" } : Jvm.MethodName) prog_1_method_14_code 2 (Option.some Jvm.ClassFile.FieldType.int)) ∈ gA := gA_in (List.mem_of_getElem? (i := 491) (by decide +kernel)) (by decide +kernel)
theorem kw_425 : (Jvm.Cond.methodLink "PassedToken" 198 ({ cls := "PassedToken", name := "poll", desc := "(I)V" } : Jvm.MethodName)) ∈ gA := gA_in (List.mem_of_getElem? (i := 492) (by decide +kernel)) (by decide +kernel)
theorem kw_427 : (Jvm.Cond.instanceMethod ({ cls := "PassedToken", name := "poll", desc := "(I)V" } : Jvm.MethodName)) ∈ gA := gA_in (List.mem_of_getElem? (i := 494) (by decide +kernel)) (by decide +kernel)
theorem kw_428 : (Jvm.Cond.code ({ cls := "PassedToken", name := "poll", desc := "(I)V" } : Jvm.MethodName) prog_1_method_25_code 2 (Option.none : Option Jvm.ClassFile.FieldType)) ∈ gA := gA_in (List.mem_of_getElem? (i := 495) (by decide +kernel)) (by decide +kernel)
theorem kw_429 : (Jvm.Cond.methodLink "PassedToken" 201 ({ cls := "PassedToken", name := "pass", desc := "(I)V" } : Jvm.MethodName)) ∈ gA := gA_in (List.mem_of_getElem? (i := 496) (by decide +kernel)) (by decide +kernel)
theorem kw_431 : (Jvm.Cond.instanceMethod ({ cls := "PassedToken", name := "pass", desc := "(I)V" } : Jvm.MethodName)) ∈ gA := gA_in (List.mem_of_getElem? (i := 498) (by decide +kernel)) (by decide +kernel)
theorem kw_432 : (Jvm.Cond.code ({ cls := "PassedToken", name := "pass", desc := "(I)V" } : Jvm.MethodName) prog_1_method_26_code 2 (Option.none : Option Jvm.ClassFile.FieldType)) ∈ gA := gA_in (List.mem_of_getElem? (i := 499) (by decide +kernel)) (by decide +kernel)
theorem kw_433 : (Jvm.Cond.methodLink "PassedToken" 152 ({ cls := "PassedToken", name := "passingLine", desc := "()Z" } : Jvm.MethodName)) ∈ gA := gA_in (List.mem_of_getElem? (i := 500) (by decide +kernel)) (by decide +kernel)
theorem kw_435 : (Jvm.Cond.instanceMethod ({ cls := "PassedToken", name := "passingLine", desc := "()Z" } : Jvm.MethodName)) ∈ gA := gA_in (List.mem_of_getElem? (i := 502) (by decide +kernel)) (by decide +kernel)
theorem kw_436 : (Jvm.Cond.code ({ cls := "PassedToken", name := "passingLine", desc := "()Z" } : Jvm.MethodName) prog_1_method_21_code 1 (Option.some Jvm.ClassFile.FieldType.boolean)) ∈ gA := gA_in (List.mem_of_getElem? (i := 503) (by decide +kernel)) (by decide +kernel)
theorem kw_437 : (Jvm.Cond.methodLink "PassedToken" 155 ({ cls := "PassedToken", name := "lostLine", desc := "()Z" } : Jvm.MethodName)) ∈ gA := gA_in (List.mem_of_getElem? (i := 504) (by decide +kernel)) (by decide +kernel)
theorem kw_439 : (Jvm.Cond.instanceMethod ({ cls := "PassedToken", name := "lostLine", desc := "()Z" } : Jvm.MethodName)) ∈ gA := gA_in (List.mem_of_getElem? (i := 506) (by decide +kernel)) (by decide +kernel)
theorem kw_440 : (Jvm.Cond.code ({ cls := "PassedToken", name := "lostLine", desc := "()Z" } : Jvm.MethodName) prog_1_method_22_code 1 (Option.some Jvm.ClassFile.FieldType.boolean)) ∈ gA := gA_in (List.mem_of_getElem? (i := 507) (by decide +kernel)) (by decide +kernel)
theorem kw_441 : (Jvm.Cond.methodLink "PassedToken" 158 ({ cls := "PassedToken", name := "answeredLine", desc := "()Z" } : Jvm.MethodName)) ∈ gA := gA_in (List.mem_of_getElem? (i := 508) (by decide +kernel)) (by decide +kernel)
theorem kw_443 : (Jvm.Cond.instanceMethod ({ cls := "PassedToken", name := "answeredLine", desc := "()Z" } : Jvm.MethodName)) ∈ gA := gA_in (List.mem_of_getElem? (i := 510) (by decide +kernel)) (by decide +kernel)
theorem kw_444 : (Jvm.Cond.code ({ cls := "PassedToken", name := "answeredLine", desc := "()Z" } : Jvm.MethodName) prog_1_method_23_code 1 (Option.some Jvm.ClassFile.FieldType.boolean)) ∈ gA := gA_in (List.mem_of_getElem? (i := 511) (by decide +kernel)) (by decide +kernel)
theorem kw_445 : (Jvm.Cond.methodLink "PassedToken" 112 ({ cls := "PassedToken", name := "isOtherStation", desc := "(I)Z" } : Jvm.MethodName)) ∈ gA := gA_in (List.mem_of_getElem? (i := 512) (by decide +kernel)) (by decide +kernel)
theorem kw_447 : (Jvm.Cond.instanceMethod ({ cls := "PassedToken", name := "isOtherStation", desc := "(I)Z" } : Jvm.MethodName)) ∈ gA := gA_in (List.mem_of_getElem? (i := 514) (by decide +kernel)) (by decide +kernel)
theorem kw_448 : (Jvm.Cond.code ({ cls := "PassedToken", name := "isOtherStation", desc := "(I)Z" } : Jvm.MethodName) prog_1_method_13_code 2 (Option.some Jvm.ClassFile.FieldType.boolean)) ∈ gA := gA_in (List.mem_of_getElem? (i := 515) (by decide +kernel)) (by decide +kernel)
theorem kw_449 : (Jvm.Cond.methodLink "PassedToken" 161 ({ cls := "PassedToken", name := "unansweredLine", desc := "(I)Z" } : Jvm.MethodName)) ∈ gA := gA_in (List.mem_of_getElem? (i := 516) (by decide +kernel)) (by decide +kernel)
theorem kw_451 : (Jvm.Cond.instanceMethod ({ cls := "PassedToken", name := "unansweredLine", desc := "(I)Z" } : Jvm.MethodName)) ∈ gA := gA_in (List.mem_of_getElem? (i := 518) (by decide +kernel)) (by decide +kernel)
theorem kw_452 : (Jvm.Cond.code ({ cls := "PassedToken", name := "unansweredLine", desc := "(I)Z" } : Jvm.MethodName) prog_1_method_24_code 2 (Option.some Jvm.ClassFile.FieldType.boolean)) ∈ gA := gA_in (List.mem_of_getElem? (i := 519) (by decide +kernel)) (by decide +kernel)
theorem kw_453 : (Jvm.Cond.methodLink "PassedTokenLaw" 26 ({ cls := "PassedToken", name := "quiet", desc := "(I)I" } : Jvm.MethodName)) ∈ gA := gA_in (List.mem_of_getElem? (i := 520) (by decide +kernel)) (by decide +kernel)
theorem kw_454 : (Jvm.Cond.instanceMethod ({ cls := "PassedToken", name := "quiet", desc := "(I)I" } : Jvm.MethodName)) ∈ gA := gA_in (List.mem_of_getElem? (i := 521) (by decide +kernel)) (by decide +kernel)
theorem kw_455 : (Jvm.Cond.selects "PassedToken" ({ cls := "PassedToken", name := "quiet", desc := "(I)I" } : Jvm.MethodName) ({ cls := "PassedToken", name := "quiet", desc := "(I)I" } : Jvm.MethodName)) ∈ gA := gA_in (List.mem_of_getElem? (i := 522) (by decide +kernel)) (by decide +kernel)
theorem kw_456 : (Jvm.Cond.code ({ cls := "PassedToken", name := "quiet", desc := "(I)I" } : Jvm.MethodName) prog_1_method_3_code 3 (Option.some Jvm.ClassFile.FieldType.int)) ∈ gA := gA_in (List.mem_of_getElem? (i := 523) (by decide +kernel)) (by decide +kernel)
theorem kw_457 : (Jvm.Cond.methodLink "PassedToken" 106 ({ cls := "PassedToken$Ear", name := "rest", desc := "(I)I" } : Jvm.MethodName)) ∈ gA := gA_in (List.mem_of_getElem? (i := 524) (by decide +kernel)) (by decide +kernel)
theorem kw_458 : (Jvm.Cond.instanceMethod ({ cls := "PassedToken$Ear", name := "rest", desc := "(I)I" } : Jvm.MethodName)) ∈ gA := gA_in (List.mem_of_getElem? (i := 525) (by decide +kernel)) (by decide +kernel)
theorem kw_459 : (Jvm.Cond.selects "PassedToken$Ear" ({ cls := "PassedToken$Ear", name := "rest", desc := "(I)I" } : Jvm.MethodName) ({ cls := "PassedToken$Ear", name := "rest", desc := "(I)I" } : Jvm.MethodName)) ∈ gA := gA_in (List.mem_of_getElem? (i := 526) (by decide +kernel)) (by decide +kernel)
theorem kw_460 : (Jvm.Cond.code ({ cls := "PassedToken$Ear", name := "rest", desc := "(I)I" } : Jvm.MethodName) prog_4_method_7_code 2 (Option.some Jvm.ClassFile.FieldType.int)) ∈ gA := gA_in (List.mem_of_getElem? (i := 527) (by decide +kernel)) (by decide +kernel)
theorem kw_461 : (Jvm.Cond.methodLink "PassedTokenLaw" 30 ({ cls := "PassedToken", name := "sent", desc := "(I)I" } : Jvm.MethodName)) ∈ gA := gA_in (List.mem_of_getElem? (i := 528) (by decide +kernel)) (by decide +kernel)
theorem kw_462 : (Jvm.Cond.instanceMethod ({ cls := "PassedToken", name := "sent", desc := "(I)I" } : Jvm.MethodName)) ∈ gA := gA_in (List.mem_of_getElem? (i := 529) (by decide +kernel)) (by decide +kernel)
theorem kw_463 : (Jvm.Cond.selects "PassedToken" ({ cls := "PassedToken", name := "sent", desc := "(I)I" } : Jvm.MethodName) ({ cls := "PassedToken", name := "sent", desc := "(I)I" } : Jvm.MethodName)) ∈ gA := gA_in (List.mem_of_getElem? (i := 530) (by decide +kernel)) (by decide +kernel)
theorem kw_464 : (Jvm.Cond.code ({ cls := "PassedToken", name := "sent", desc := "(I)I" } : Jvm.MethodName) prog_1_method_4_code 2 (Option.some Jvm.ClassFile.FieldType.int)) ∈ gA := gA_in (List.mem_of_getElem? (i := 531) (by decide +kernel)) (by decide +kernel)
theorem kw_465 : (Jvm.Cond.methodLink "PassedToken" 109 ({ cls := "PassedToken$Row", name := "at", desc := "(I)I" } : Jvm.MethodName)) ∈ gA := gA_in (List.mem_of_getElem? (i := 532) (by decide +kernel)) (by decide +kernel)
theorem kw_466 : (Jvm.Cond.methodLink "PassedTokenLaw" 34 ({ cls := "PassedToken", name := "ask", desc := "(IIIII)Z" } : Jvm.MethodName)) ∈ gA := gA_in (List.mem_of_getElem? (i := 533) (by decide +kernel)) (by decide +kernel)
theorem kw_467 : (Jvm.Cond.instanceMethod ({ cls := "PassedToken", name := "ask", desc := "(IIIII)Z" } : Jvm.MethodName)) ∈ gA := gA_in (List.mem_of_getElem? (i := 534) (by decide +kernel)) (by decide +kernel)
theorem kw_468 : (Jvm.Cond.selects "PassedToken" ({ cls := "PassedToken", name := "ask", desc := "(IIIII)Z" } : Jvm.MethodName) ({ cls := "PassedToken", name := "ask", desc := "(IIIII)Z" } : Jvm.MethodName)) ∈ gA := gA_in (List.mem_of_getElem? (i := 535) (by decide +kernel)) (by decide +kernel)
theorem kw_469 : (Jvm.Cond.code ({ cls := "PassedToken", name := "ask", desc := "(IIIII)Z" } : Jvm.MethodName) prog_1_method_5_code 6 (Option.some Jvm.ClassFile.FieldType.boolean)) ∈ gA := gA_in (List.mem_of_getElem? (i := 536) (by decide +kernel)) (by decide +kernel)
theorem kw_470 : (Jvm.Cond.constant "PassedToken" 115 (4194303 : Int32)) ∈ gA := gA_in (List.mem_of_getElem? (i := 537) (by decide +kernel)) (by decide +kernel)
theorem kw_471 : (Jvm.Cond.constant "PassedToken" 119 (4194304 : Int32)) ∈ gA := gA_in (List.mem_of_getElem? (i := 538) (by decide +kernel)) (by decide +kernel)
theorem kw_472 : (Jvm.Cond.methodLink "PassedToken" 120 ({ cls := "PassedToken$Row", name := "putInt", desc := "(I)V" } : Jvm.MethodName)) ∈ gA := gA_in (List.mem_of_getElem? (i := 539) (by decide +kernel)) (by decide +kernel)
theorem kw_473 : (Jvm.Cond.methodLink "PassedTokenLaw" 39 ({ cls := "PassedToken", name := "replied", desc := "()I" } : Jvm.MethodName)) ∈ gA := gA_in (List.mem_of_getElem? (i := 540) (by decide +kernel)) (by decide +kernel)
theorem kw_474 : (Jvm.Cond.instanceMethod ({ cls := "PassedToken", name := "replied", desc := "()I" } : Jvm.MethodName)) ∈ gA := gA_in (List.mem_of_getElem? (i := 541) (by decide +kernel)) (by decide +kernel)
theorem kw_475 : (Jvm.Cond.selects "PassedToken" ({ cls := "PassedToken", name := "replied", desc := "()I" } : Jvm.MethodName) ({ cls := "PassedToken", name := "replied", desc := "()I" } : Jvm.MethodName)) ∈ gA := gA_in (List.mem_of_getElem? (i := 542) (by decide +kernel)) (by decide +kernel)
theorem kw_476 : (Jvm.Cond.code ({ cls := "PassedToken", name := "replied", desc := "()I" } : Jvm.MethodName) prog_1_method_6_code 1 (Option.some Jvm.ClassFile.FieldType.int)) ∈ gA := gA_in (List.mem_of_getElem? (i := 543) (by decide +kernel)) (by decide +kernel)
theorem kw_477 : (Jvm.Cond.methodLink "PassedTokenLaw" 44 ({ cls := "PassedToken", name := "reply", desc := "(I)I" } : Jvm.MethodName)) ∈ gA := gA_in (List.mem_of_getElem? (i := 544) (by decide +kernel)) (by decide +kernel)
theorem kw_478 : (Jvm.Cond.instanceMethod ({ cls := "PassedToken", name := "reply", desc := "(I)I" } : Jvm.MethodName)) ∈ gA := gA_in (List.mem_of_getElem? (i := 545) (by decide +kernel)) (by decide +kernel)
theorem kw_479 : (Jvm.Cond.selects "PassedToken" ({ cls := "PassedToken", name := "reply", desc := "(I)I" } : Jvm.MethodName) ({ cls := "PassedToken", name := "reply", desc := "(I)I" } : Jvm.MethodName)) ∈ gA := gA_in (List.mem_of_getElem? (i := 546) (by decide +kernel)) (by decide +kernel)
theorem kw_480 : (Jvm.Cond.code ({ cls := "PassedToken", name := "reply", desc := "(I)I" } : Jvm.MethodName) prog_1_method_7_code 2 (Option.some Jvm.ClassFile.FieldType.int)) ∈ gA := gA_in (List.mem_of_getElem? (i := 547) (by decide +kernel)) (by decide +kernel)
theorem kw_481 : (Jvm.Cond.methodLink "PassedTokenLaw" 48 ({ cls := "PassedToken", name := "state", desc := "()I" } : Jvm.MethodName)) ∈ gA := gA_in (List.mem_of_getElem? (i := 548) (by decide +kernel)) (by decide +kernel)
theorem kw_482 : (Jvm.Cond.instanceMethod ({ cls := "PassedToken", name := "state", desc := "()I" } : Jvm.MethodName)) ∈ gA := gA_in (List.mem_of_getElem? (i := 549) (by decide +kernel)) (by decide +kernel)
theorem kw_483 : (Jvm.Cond.selects "PassedToken" ({ cls := "PassedToken", name := "state", desc := "()I" } : Jvm.MethodName) ({ cls := "PassedToken", name := "state", desc := "()I" } : Jvm.MethodName)) ∈ gA := gA_in (List.mem_of_getElem? (i := 550) (by decide +kernel)) (by decide +kernel)
theorem kw_484 : (Jvm.Cond.code ({ cls := "PassedToken", name := "state", desc := "()I" } : Jvm.MethodName) prog_1_method_8_code 1 (Option.some Jvm.ClassFile.FieldType.int)) ∈ gA := gA_in (List.mem_of_getElem? (i := 551) (by decide +kernel)) (by decide +kernel)
theorem kw_485 : (Jvm.Cond.methodLink "PassedTokenLaw" 52 ({ cls := "PassedToken", name := "silence", desc := "()I" } : Jvm.MethodName)) ∈ gA := gA_in (List.mem_of_getElem? (i := 552) (by decide +kernel)) (by decide +kernel)
theorem kw_486 : (Jvm.Cond.instanceMethod ({ cls := "PassedToken", name := "silence", desc := "()I" } : Jvm.MethodName)) ∈ gA := gA_in (List.mem_of_getElem? (i := 553) (by decide +kernel)) (by decide +kernel)
theorem kw_487 : (Jvm.Cond.selects "PassedToken" ({ cls := "PassedToken", name := "silence", desc := "()I" } : Jvm.MethodName) ({ cls := "PassedToken", name := "silence", desc := "()I" } : Jvm.MethodName)) ∈ gA := gA_in (List.mem_of_getElem? (i := 554) (by decide +kernel)) (by decide +kernel)
theorem kw_488 : (Jvm.Cond.code ({ cls := "PassedToken", name := "silence", desc := "()I" } : Jvm.MethodName) prog_1_method_9_code 1 (Option.some Jvm.ClassFile.FieldType.int)) ∈ gA := gA_in (List.mem_of_getElem? (i := 555) (by decide +kernel)) (by decide +kernel)
theorem kw_489 : (Jvm.Cond.methodLink "PassedTokenLaw" 56 ({ cls := "PassedToken", name := "set", desc := "(IIIZ)Z" } : Jvm.MethodName)) ∈ gA := gA_in (List.mem_of_getElem? (i := 556) (by decide +kernel)) (by decide +kernel)
theorem kw_490 : (Jvm.Cond.instanceMethod ({ cls := "PassedToken", name := "set", desc := "(IIIZ)Z" } : Jvm.MethodName)) ∈ gA := gA_in (List.mem_of_getElem? (i := 557) (by decide +kernel)) (by decide +kernel)
theorem kw_491 : (Jvm.Cond.selects "PassedToken" ({ cls := "PassedToken", name := "set", desc := "(IIIZ)Z" } : Jvm.MethodName) ({ cls := "PassedToken", name := "set", desc := "(IIIZ)Z" } : Jvm.MethodName)) ∈ gA := gA_in (List.mem_of_getElem? (i := 558) (by decide +kernel)) (by decide +kernel)
theorem kw_492 : (Jvm.Cond.code ({ cls := "PassedToken", name := "set", desc := "(IIIZ)Z" } : Jvm.MethodName) prog_1_method_10_code 6 (Option.some Jvm.ClassFile.FieldType.boolean)) ∈ gA := gA_in (List.mem_of_getElem? (i := 559) (by decide +kernel)) (by decide +kernel)
theorem kw_493 : (Jvm.Cond.methodLink "PassedToken" 123 ({ cls := "PassedToken$Desk", name := "thing", desc := "(I)LPassedToken$Thing;" } : Jvm.MethodName)) ∈ gA := gA_in (List.mem_of_getElem? (i := 560) (by decide +kernel)) (by decide +kernel)
theorem kw_494 : (Jvm.Cond.instanceMethod ({ cls := "PassedToken$Desk", name := "thing", desc := "(I)LPassedToken$Thing;" } : Jvm.MethodName)) ∈ gA := gA_in (List.mem_of_getElem? (i := 561) (by decide +kernel)) (by decide +kernel)
theorem kw_495 : (Jvm.Cond.selects "PassedToken$Desk" ({ cls := "PassedToken$Desk", name := "thing", desc := "(I)LPassedToken$Thing;" } : Jvm.MethodName) ({ cls := "PassedToken$Desk", name := "thing", desc := "(I)LPassedToken$Thing;" } : Jvm.MethodName)) ∈ gA := gA_in (List.mem_of_getElem? (i := 562) (by decide +kernel)) (by decide +kernel)
theorem kw_496 : (Jvm.Cond.code ({ cls := "PassedToken$Desk", name := "thing", desc := "(I)LPassedToken$Thing;" } : Jvm.MethodName) prog_3_method_2_code 2 (Option.some (Jvm.ClassFile.FieldType.object "PassedToken$Thing"))) ∈ gA := gA_in (List.mem_of_getElem? (i := 563) (by decide +kernel)) (by decide +kernel)
theorem kw_497 : (Jvm.Cond.methodLink "PassedToken" 127 ({ cls := "PassedToken$Thing", name := "takeAway", desc := "(I)Z" } : Jvm.MethodName)) ∈ gA := gA_in (List.mem_of_getElem? (i := 564) (by decide +kernel)) (by decide +kernel)
theorem kw_498 : (Jvm.Cond.methodLink "PassedToken" 132 ({ cls := "PassedToken$Thing", name := "give", desc := "(II)Z" } : Jvm.MethodName)) ∈ gA := gA_in (List.mem_of_getElem? (i := 565) (by decide +kernel)) (by decide +kernel)
theorem kw_499 : (Jvm.Cond.methodLink "PassedTokenLaw" 61 ({ cls := "PassedToken", name := "present", desc := "(I)I" } : Jvm.MethodName)) ∈ gA := gA_in (List.mem_of_getElem? (i := 566) (by decide +kernel)) (by decide +kernel)
theorem kw_500 : (Jvm.Cond.instanceMethod ({ cls := "PassedToken", name := "present", desc := "(I)I" } : Jvm.MethodName)) ∈ gA := gA_in (List.mem_of_getElem? (i := 567) (by decide +kernel)) (by decide +kernel)
theorem kw_501 : (Jvm.Cond.selects "PassedToken" ({ cls := "PassedToken", name := "present", desc := "(I)I" } : Jvm.MethodName) ({ cls := "PassedToken", name := "present", desc := "(I)I" } : Jvm.MethodName)) ∈ gA := gA_in (List.mem_of_getElem? (i := 568) (by decide +kernel)) (by decide +kernel)
theorem kw_502 : (Jvm.Cond.code ({ cls := "PassedToken", name := "present", desc := "(I)I" } : Jvm.MethodName) prog_1_method_11_code 3 (Option.some Jvm.ClassFile.FieldType.int)) ∈ gA := gA_in (List.mem_of_getElem? (i := 569) (by decide +kernel)) (by decide +kernel)
theorem kw_503 : (Jvm.Cond.methodLink "PassedToken" 136 ({ cls := "PassedToken$Thing", name := "shown", desc := "()I" } : Jvm.MethodName)) ∈ gA := gA_in (List.mem_of_getElem? (i := 570) (by decide +kernel)) (by decide +kernel)
theorem kw_504 : (Jvm.Cond.methodLink "PassedTokenLaw" 9 ({ cls := "PassedTokenLaw", name := "cell", desc := "([II)I" } : Jvm.MethodName)) ∈ gA := gA_in (List.mem_of_getElem? (i := 571) (by decide +kernel)) (by decide +kernel)
theorem kw_505 : (Jvm.Cond.static ({ cls := "PassedTokenLaw", name := "cell", desc := "([II)I" } : Jvm.MethodName)) ∈ gA := gA_in (List.mem_of_getElem? (i := 572) (by decide +kernel)) (by decide +kernel)
theorem kw_506 : (Jvm.Cond.code ({ cls := "PassedTokenLaw", name := "cell", desc := "([II)I" } : Jvm.MethodName) method_2_code 2 (Option.some Jvm.ClassFile.FieldType.int)) ∈ gA := gA_in (List.mem_of_getElem? (i := 573) (by decide +kernel)) (by decide +kernel)
theorem kw_507 : (Jvm.Cond.classLink "PassedTokenLaw" 18 "PassedTokenModel") ∈ gA := gA_in (List.mem_of_getElem? (i := 574) (by decide +kernel)) (by decide +kernel)
theorem kw_509 : (Jvm.Cond.methodLink "PassedTokenLaw" 20 ({ cls := "PassedTokenModel", name := "<init>", desc := "(II)V" } : Jvm.MethodName)) ∈ gA := gA_in (List.mem_of_getElem? (i := 576) (by decide +kernel)) (by decide +kernel)
theorem kw_511 : (Jvm.Cond.code ({ cls := "PassedTokenModel", name := "<init>", desc := "(II)V" } : Jvm.MethodName) prog_8_method_1_code 3 (Option.none : Option Jvm.ClassFile.FieldType)) ∈ gA := gA_in (List.mem_of_getElem? (i := 578) (by decide +kernel)) (by decide +kernel)
theorem kw_512 : (Jvm.Cond.methodLink "PassedTokenModel" 1 ({ cls := "java/lang/Object", name := "<init>", desc := "()V" } : Jvm.MethodName)) ∈ gA := gA_in (List.mem_of_getElem? (i := 579) (by decide +kernel)) (by decide +kernel)
theorem kw_513 : (Jvm.Cond.fieldLink "PassedTokenModel" 39 "PassedTokenModel" "own" "I") ∈ gA := gA_in (List.mem_of_getElem? (i := 580) (by decide +kernel)) (by decide +kernel)
theorem kw_514 : (Jvm.Cond.fieldLink "PassedTokenModel" 35 "PassedTokenModel" "most" "I") ∈ gA := gA_in (List.mem_of_getElem? (i := 581) (by decide +kernel)) (by decide +kernel)
theorem kw_515 : (Jvm.Cond.fieldLink "PassedTokenModel" 64 "PassedTokenModel" "silence" "I") ∈ gA := gA_in (List.mem_of_getElem? (i := 582) (by decide +kernel)) (by decide +kernel)
theorem kw_516 : (Jvm.Cond.fieldLink "PassedTokenModel" 71 "PassedTokenModel" "events" "I") ∈ gA := gA_in (List.mem_of_getElem? (i := 583) (by decide +kernel)) (by decide +kernel)
theorem kw_517 : (Jvm.Cond.fieldLink "PassedTokenModel" 100 "PassedTokenModel" "state" "I") ∈ gA := gA_in (List.mem_of_getElem? (i := 584) (by decide +kernel)) (by decide +kernel)
theorem kw_518 : (Jvm.Cond.fieldLink "PassedTokenModel" 42 "PassedTokenModel" "next" "I") ∈ gA := gA_in (List.mem_of_getElem? (i := 585) (by decide +kernel)) (by decide +kernel)
theorem kw_519 : (Jvm.Cond.fieldLink "PassedTokenModel" 45 "PassedTokenModel" "polled" "I") ∈ gA := gA_in (List.mem_of_getElem? (i := 586) (by decide +kernel)) (by decide +kernel)
theorem kw_520 : (Jvm.Cond.fieldLink "PassedTokenModel" 149 "PassedTokenModel" "tokens" "I") ∈ gA := gA_in (List.mem_of_getElem? (i := 587) (by decide +kernel)) (by decide +kernel)
theorem kw_521 : (Jvm.Cond.fieldLink "PassedTokenModel" 152 "PassedTokenModel" "tries" "I") ∈ gA := gA_in (List.mem_of_getElem? (i := 588) (by decide +kernel)) (by decide +kernel)
theorem kw_522 : (Jvm.Cond.fieldLink "PassedTokenModel" 124 "PassedTokenModel" "sole" "Z") ∈ gA := gA_in (List.mem_of_getElem? (i := 589) (by decide +kernel)) (by decide +kernel)
theorem kw_523 : (Jvm.Cond.fieldLink "PassedTokenModel" 74 "PassedTokenModel" "come" "I") ∈ gA := gA_in (List.mem_of_getElem? (i := 590) (by decide +kernel)) (by decide +kernel)
theorem kw_524 : (Jvm.Cond.fieldLink "PassedTokenModel" 7 "PassedTokenModel" "header" "[I") ∈ gA := gA_in (List.mem_of_getElem? (i := 591) (by decide +kernel)) (by decide +kernel)
theorem kw_525 : (Jvm.Cond.fieldLink "PassedTokenModel" 13 "PassedTokenModel" "data" "[I") ∈ gA := gA_in (List.mem_of_getElem? (i := 592) (by decide +kernel)) (by decide +kernel)
theorem kw_526 : (Jvm.Cond.fieldLink "PassedTokenModel" 80 "PassedTokenModel" "size" "I") ∈ gA := gA_in (List.mem_of_getElem? (i := 593) (by decide +kernel)) (by decide +kernel)
theorem kw_527 : (Jvm.Cond.fieldLink "PassedTokenModel" 94 "PassedTokenModel" "heard" "Z") ∈ gA := gA_in (List.mem_of_getElem? (i := 594) (by decide +kernel)) (by decide +kernel)
theorem kw_528 : (Jvm.Cond.fieldLink "PassedTokenModel" 86 "PassedTokenModel" "invalid" "Z") ∈ gA := gA_in (List.mem_of_getElem? (i := 595) (by decide +kernel)) (by decide +kernel)
theorem kw_529 : (Jvm.Cond.fieldLink "PassedTokenModel" 49 "PassedTokenModel" "out" "I") ∈ gA := gA_in (List.mem_of_getElem? (i := 596) (by decide +kernel)) (by decide +kernel)
theorem kw_530 : (Jvm.Cond.fieldLink "PassedTokenModel" 16 "PassedTokenModel" "sent" "[I") ∈ gA := gA_in (List.mem_of_getElem? (i := 597) (by decide +kernel)) (by decide +kernel)
theorem kw_531 : (Jvm.Cond.fieldLink "PassedTokenModel" 130 "PassedTokenModel" "answered" "I") ∈ gA := gA_in (List.mem_of_getElem? (i := 598) (by decide +kernel)) (by decide +kernel)
theorem kw_532 : (Jvm.Cond.fieldLink "PassedTokenModel" 19 "PassedTokenModel" "answer" "[I") ∈ gA := gA_in (List.mem_of_getElem? (i := 599) (by decide +kernel)) (by decide +kernel)
theorem kw_533 : (Jvm.Cond.fieldLink "PassedTokenModel" 139 "PassedTokenModel" "replied" "I") ∈ gA := gA_in (List.mem_of_getElem? (i := 600) (by decide +kernel)) (by decide +kernel)
theorem kw_534 : (Jvm.Cond.fieldLink "PassedTokenModel" 22 "PassedTokenModel" "reply" "[I") ∈ gA := gA_in (List.mem_of_getElem? (i := 601) (by decide +kernel)) (by decide +kernel)
theorem kw_535 : (Jvm.Cond.fieldLink "PassedTokenModel" 133 "PassedTokenModel" "asks" "Z") ∈ gA := gA_in (List.mem_of_getElem? (i := 602) (by decide +kernel)) (by decide +kernel)
theorem kw_536 : (Jvm.Cond.fieldLink "PassedTokenModel" 136 "PassedTokenModel" "askTo" "I") ∈ gA := gA_in (List.mem_of_getElem? (i := 603) (by decide +kernel)) (by decide +kernel)
theorem kw_537 : (Jvm.Cond.fieldLink "PassedTokenModel" 25 "PassedTokenModel" "request" "[I") ∈ gA := gA_in (List.mem_of_getElem? (i := 604) (by decide +kernel)) (by decide +kernel)
theorem kw_538 : (Jvm.Cond.fieldLink "PassedTokenModel" 28 "PassedTokenModel" "values" "[I") ∈ gA := gA_in (List.mem_of_getElem? (i := 605) (by decide +kernel)) (by decide +kernel)
theorem kw_539 : (Jvm.Cond.fieldLink "PassedTokenModel" 31 "PassedTokenModel" "given" "[Z") ∈ gA := gA_in (List.mem_of_getElem? (i := 606) (by decide +kernel)) (by decide +kernel)
theorem kw_540 : (Jvm.Cond.fieldLink "PassedTokenModel" 168 "PassedTokenModel" "at" "I") ∈ gA := gA_in (List.mem_of_getElem? (i := 607) (by decide +kernel)) (by decide +kernel)
theorem kw_541 : (Jvm.Cond.fieldLink "PassedTokenModel" 165 "PassedTokenModel" "fine" "Z") ∈ gA := gA_in (List.mem_of_getElem? (i := 608) (by decide +kernel)) (by decide +kernel)
theorem kw_601 : (Jvm.Cond.methodLink "PassedTokenLaw" 25 ({ cls := "PassedTokenModel", name := "hear", desc := "(I)I" } : Jvm.MethodName)) ∈ gA := gA_in (List.mem_of_getElem? (i := 668) (by decide +kernel)) (by decide +kernel)
theorem kw_602 : (Jvm.Cond.instanceMethod ({ cls := "PassedTokenModel", name := "hear", desc := "(I)I" } : Jvm.MethodName)) ∈ gA := gA_in (List.mem_of_getElem? (i := 669) (by decide +kernel)) (by decide +kernel)
theorem kw_603 : (Jvm.Cond.selects "PassedTokenModel" ({ cls := "PassedTokenModel", name := "hear", desc := "(I)I" } : Jvm.MethodName) ({ cls := "PassedTokenModel", name := "hear", desc := "(I)I" } : Jvm.MethodName)) ∈ gA := gA_in (List.mem_of_getElem? (i := 670) (by decide +kernel)) (by decide +kernel)
theorem kw_604 : (Jvm.Cond.code ({ cls := "PassedTokenModel", name := "hear", desc := "(I)I" } : Jvm.MethodName) prog_8_method_36_code 2 (Option.some Jvm.ClassFile.FieldType.int)) ∈ gA := gA_in (List.mem_of_getElem? (i := 671) (by decide +kernel)) (by decide +kernel)
theorem kw_605 : (Jvm.Cond.methodLink "PassedTokenModel" 210 ({ cls := "PassedTokenModel", name := "listen", desc := "(I)V" } : Jvm.MethodName)) ∈ gA := gA_in (List.mem_of_getElem? (i := 672) (by decide +kernel)) (by decide +kernel)
theorem kw_607 : (Jvm.Cond.instanceMethod ({ cls := "PassedTokenModel", name := "listen", desc := "(I)V" } : Jvm.MethodName)) ∈ gA := gA_in (List.mem_of_getElem? (i := 674) (by decide +kernel)) (by decide +kernel)
theorem kw_608 : (Jvm.Cond.code ({ cls := "PassedTokenModel", name := "listen", desc := "(I)V" } : Jvm.MethodName) prog_8_method_9_code 2 (Option.none : Option Jvm.ClassFile.FieldType)) ∈ gA := gA_in (List.mem_of_getElem? (i := 675) (by decide +kernel)) (by decide +kernel)
theorem kw_609 : (Jvm.Cond.methodLink "PassedTokenModel" 77 ({ cls := "PassedTokenModel", name := "endHeader", desc := "()V" } : Jvm.MethodName)) ∈ gA := gA_in (List.mem_of_getElem? (i := 676) (by decide +kernel)) (by decide +kernel)
theorem kw_611 : (Jvm.Cond.instanceMethod ({ cls := "PassedTokenModel", name := "endHeader", desc := "()V" } : Jvm.MethodName)) ∈ gA := gA_in (List.mem_of_getElem? (i := 678) (by decide +kernel)) (by decide +kernel)
theorem kw_612 : (Jvm.Cond.code ({ cls := "PassedTokenModel", name := "endHeader", desc := "()V" } : Jvm.MethodName) prog_8_method_10_code 3 (Option.none : Option Jvm.ClassFile.FieldType)) ∈ gA := gA_in (List.mem_of_getElem? (i := 679) (by decide +kernel)) (by decide +kernel)
theorem kw_613 : (Jvm.Cond.methodLink "PassedTokenModel" 56 ({ cls := "PassedTokenModel", name := "headerStep", desc := "(II)I" } : Jvm.MethodName)) ∈ gA := gA_in (List.mem_of_getElem? (i := 680) (by decide +kernel)) (by decide +kernel)
theorem kw_614 : (Jvm.Cond.static ({ cls := "PassedTokenModel", name := "headerStep", desc := "(II)I" } : Jvm.MethodName)) ∈ gA := gA_in (List.mem_of_getElem? (i := 681) (by decide +kernel)) (by decide +kernel)
theorem kw_615 : (Jvm.Cond.code ({ cls := "PassedTokenModel", name := "headerStep", desc := "(II)I" } : Jvm.MethodName) prog_8_method_3_code 4 (Option.some Jvm.ClassFile.FieldType.int)) ∈ gA := gA_in (List.mem_of_getElem? (i := 682) (by decide +kernel)) (by decide +kernel)
theorem kw_616 : (Jvm.Cond.methodLink "PassedTokenModel" 90 ({ cls := "PassedTokenModel", name := "isForMe", desc := "()Z" } : Jvm.MethodName)) ∈ gA := gA_in (List.mem_of_getElem? (i := 683) (by decide +kernel)) (by decide +kernel)
theorem kw_618 : (Jvm.Cond.instanceMethod ({ cls := "PassedTokenModel", name := "isForMe", desc := "()Z" } : Jvm.MethodName)) ∈ gA := gA_in (List.mem_of_getElem? (i := 685) (by decide +kernel)) (by decide +kernel)
theorem kw_619 : (Jvm.Cond.code ({ cls := "PassedTokenModel", name := "isForMe", desc := "()Z" } : Jvm.MethodName) prog_8_method_12_code 1 (Option.some Jvm.ClassFile.FieldType.boolean)) ∈ gA := gA_in (List.mem_of_getElem? (i := 686) (by decide +kernel)) (by decide +kernel)
theorem kw_620 : (Jvm.Cond.methodLink "PassedTokenModel" 83 ({ cls := "PassedTokenModel", name := "endData", desc := "()V" } : Jvm.MethodName)) ∈ gA := gA_in (List.mem_of_getElem? (i := 687) (by decide +kernel)) (by decide +kernel)
theorem kw_622 : (Jvm.Cond.instanceMethod ({ cls := "PassedTokenModel", name := "endData", desc := "()V" } : Jvm.MethodName)) ∈ gA := gA_in (List.mem_of_getElem? (i := 689) (by decide +kernel)) (by decide +kernel)
theorem kw_623 : (Jvm.Cond.code ({ cls := "PassedTokenModel", name := "endData", desc := "()V" } : Jvm.MethodName) prog_8_method_11_code 3 (Option.none : Option Jvm.ClassFile.FieldType)) ∈ gA := gA_in (List.mem_of_getElem? (i := 690) (by decide +kernel)) (by decide +kernel)
theorem kw_624 : (Jvm.Cond.constant "PassedTokenModel" 60 (65535 : Int32)) ∈ gA := gA_in (List.mem_of_getElem? (i := 691) (by decide +kernel)) (by decide +kernel)
theorem kw_625 : (Jvm.Cond.methodLink "PassedTokenModel" 61 ({ cls := "PassedTokenModel", name := "dataStep", desc := "(II)I" } : Jvm.MethodName)) ∈ gA := gA_in (List.mem_of_getElem? (i := 692) (by decide +kernel)) (by decide +kernel)
theorem kw_626 : (Jvm.Cond.static ({ cls := "PassedTokenModel", name := "dataStep", desc := "(II)I" } : Jvm.MethodName)) ∈ gA := gA_in (List.mem_of_getElem? (i := 693) (by decide +kernel)) (by decide +kernel)
theorem kw_627 : (Jvm.Cond.code ({ cls := "PassedTokenModel", name := "dataStep", desc := "(II)I" } : Jvm.MethodName) prog_8_method_4_code 4 (Option.some Jvm.ClassFile.FieldType.int)) ∈ gA := gA_in (List.mem_of_getElem? (i := 694) (by decide +kernel)) (by decide +kernel)
theorem kw_628 : (Jvm.Cond.constant "PassedTokenModel" 48 (33800 : Int32)) ∈ gA := gA_in (List.mem_of_getElem? (i := 695) (by decide +kernel)) (by decide +kernel)
theorem kw_629 : (Jvm.Cond.methodLink "PassedTokenModel" 213 ({ cls := "PassedTokenModel", name := "settle", desc := "()V" } : Jvm.MethodName)) ∈ gA := gA_in (List.mem_of_getElem? (i := 696) (by decide +kernel)) (by decide +kernel)
theorem kw_631 : (Jvm.Cond.instanceMethod ({ cls := "PassedTokenModel", name := "settle", desc := "()V" } : Jvm.MethodName)) ∈ gA := gA_in (List.mem_of_getElem? (i := 698) (by decide +kernel)) (by decide +kernel)
theorem kw_632 : (Jvm.Cond.code ({ cls := "PassedTokenModel", name := "settle", desc := "()V" } : Jvm.MethodName) prog_8_method_13_code 2 (Option.none : Option Jvm.ClassFile.FieldType)) ∈ gA := gA_in (List.mem_of_getElem? (i := 699) (by decide +kernel)) (by decide +kernel)
theorem kw_633 : (Jvm.Cond.methodLink "PassedTokenModel" 97 ({ cls := "PassedTokenModel", name := "step", desc := "()Z" } : Jvm.MethodName)) ∈ gA := gA_in (List.mem_of_getElem? (i := 700) (by decide +kernel)) (by decide +kernel)
theorem kw_635 : (Jvm.Cond.instanceMethod ({ cls := "PassedTokenModel", name := "step", desc := "()Z" } : Jvm.MethodName)) ∈ gA := gA_in (List.mem_of_getElem? (i := 702) (by decide +kernel)) (by decide +kernel)
theorem kw_636 : (Jvm.Cond.code ({ cls := "PassedTokenModel", name := "step", desc := "()Z" } : Jvm.MethodName) prog_8_method_14_code 1 (Option.some Jvm.ClassFile.FieldType.boolean)) ∈ gA := gA_in (List.mem_of_getElem? (i := 703) (by decide +kernel)) (by decide +kernel)
theorem kw_637 : (Jvm.Cond.methodLink "PassedTokenModel" 103 ({ cls := "PassedTokenModel", name := "idle", desc := "()Z" } : Jvm.MethodName)) ∈ gA := gA_in (List.mem_of_getElem? (i := 704) (by decide +kernel)) (by decide +kernel)
theorem kw_639 : (Jvm.Cond.instanceMethod ({ cls := "PassedTokenModel", name := "idle", desc := "()Z" } : Jvm.MethodName)) ∈ gA := gA_in (List.mem_of_getElem? (i := 706) (by decide +kernel)) (by decide +kernel)
theorem kw_640 : (Jvm.Cond.code ({ cls := "PassedTokenModel", name := "idle", desc := "()Z" } : Jvm.MethodName) prog_8_method_15_code 3 (Option.some Jvm.ClassFile.FieldType.boolean)) ∈ gA := gA_in (List.mem_of_getElem? (i := 707) (by decide +kernel)) (by decide +kernel)
theorem kw_641 : (Jvm.Cond.methodLink "PassedTokenModel" 67 ({ cls := "PassedTokenModel", name := "send", desc := "(III)V" } : Jvm.MethodName)) ∈ gA := gA_in (List.mem_of_getElem? (i := 708) (by decide +kernel)) (by decide +kernel)
theorem kw_643 : (Jvm.Cond.instanceMethod ({ cls := "PassedTokenModel", name := "send", desc := "(III)V" } : Jvm.MethodName)) ∈ gA := gA_in (List.mem_of_getElem? (i := 710) (by decide +kernel)) (by decide +kernel)
theorem kw_644 : (Jvm.Cond.code ({ cls := "PassedTokenModel", name := "send", desc := "(III)V" } : Jvm.MethodName) prog_8_method_6_code 7 (Option.none : Option Jvm.ClassFile.FieldType)) ∈ gA := gA_in (List.mem_of_getElem? (i := 711) (by decide +kernel)) (by decide +kernel)
theorem kw_645 : (Jvm.Cond.methodLink "PassedTokenModel" 52 ({ cls := "PassedTokenModel", name := "put", desc := "(I)V" } : Jvm.MethodName)) ∈ gA := gA_in (List.mem_of_getElem? (i := 712) (by decide +kernel)) (by decide +kernel)
theorem kw_647 : (Jvm.Cond.instanceMethod ({ cls := "PassedTokenModel", name := "put", desc := "(I)V" } : Jvm.MethodName)) ∈ gA := gA_in (List.mem_of_getElem? (i := 714) (by decide +kernel)) (by decide +kernel)
theorem kw_648 : (Jvm.Cond.code ({ cls := "PassedTokenModel", name := "put", desc := "(I)V" } : Jvm.MethodName) prog_8_method_5_code 2 (Option.none : Option Jvm.ClassFile.FieldType)) ∈ gA := gA_in (List.mem_of_getElem? (i := 715) (by decide +kernel)) (by decide +kernel)
theorem kw_649 : (Jvm.Cond.methodLink "PassedTokenModel" 127 ({ cls := "PassedTokenModel", name := "makeAnswer", desc := "()V" } : Jvm.MethodName)) ∈ gA := gA_in (List.mem_of_getElem? (i := 716) (by decide +kernel)) (by decide +kernel)
theorem kw_651 : (Jvm.Cond.instanceMethod ({ cls := "PassedTokenModel", name := "makeAnswer", desc := "()V" } : Jvm.MethodName)) ∈ gA := gA_in (List.mem_of_getElem? (i := 718) (by decide +kernel)) (by decide +kernel)
theorem kw_652 : (Jvm.Cond.code ({ cls := "PassedTokenModel", name := "makeAnswer", desc := "()V" } : Jvm.MethodName) prog_8_method_31_code 9 (Option.none : Option Jvm.ClassFile.FieldType)) ∈ gA := gA_in (List.mem_of_getElem? (i := 719) (by decide +kernel)) (by decide +kernel)
theorem kw_653 : (Jvm.Cond.methodLink "PassedTokenModel" 175 ({ cls := "PassedTokenModel", name := "reject", desc := "(II)V" } : Jvm.MethodName)) ∈ gA := gA_in (List.mem_of_getElem? (i := 720) (by decide +kernel)) (by decide +kernel)
theorem kw_655 : (Jvm.Cond.instanceMethod ({ cls := "PassedTokenModel", name := "reject", desc := "(II)V" } : Jvm.MethodName)) ∈ gA := gA_in (List.mem_of_getElem? (i := 722) (by decide +kernel)) (by decide +kernel)
theorem kw_656 : (Jvm.Cond.code ({ cls := "PassedTokenModel", name := "reject", desc := "(II)V" } : Jvm.MethodName) prog_8_method_32_code 3 (Option.none : Option Jvm.ClassFile.FieldType)) ∈ gA := gA_in (List.mem_of_getElem? (i := 723) (by decide +kernel)) (by decide +kernel)
theorem kw_657 : (Jvm.Cond.methodLink "PassedTokenModel" 159 ({ cls := "PassedTokenModel", name := "add", desc := "(I)V" } : Jvm.MethodName)) ∈ gA := gA_in (List.mem_of_getElem? (i := 724) (by decide +kernel)) (by decide +kernel)
theorem kw_659 : (Jvm.Cond.instanceMethod ({ cls := "PassedTokenModel", name := "add", desc := "(I)V" } : Jvm.MethodName)) ∈ gA := gA_in (List.mem_of_getElem? (i := 726) (by decide +kernel)) (by decide +kernel)
theorem kw_660 : (Jvm.Cond.code ({ cls := "PassedTokenModel", name := "add", desc := "(I)V" } : Jvm.MethodName) prog_8_method_24_code 2 (Option.none : Option Jvm.ClassFile.FieldType)) ∈ gA := gA_in (List.mem_of_getElem? (i := 727) (by decide +kernel)) (by decide +kernel)
theorem kw_661 : (Jvm.Cond.methodLink "PassedTokenModel" 179 ({ cls := "PassedTokenModel", name := "expect", desc := "(I)V" } : Jvm.MethodName)) ∈ gA := gA_in (List.mem_of_getElem? (i := 728) (by decide +kernel)) (by decide +kernel)
theorem kw_663 : (Jvm.Cond.instanceMethod ({ cls := "PassedTokenModel", name := "expect", desc := "(I)V" } : Jvm.MethodName)) ∈ gA := gA_in (List.mem_of_getElem? (i := 730) (by decide +kernel)) (by decide +kernel)
theorem kw_664 : (Jvm.Cond.code ({ cls := "PassedTokenModel", name := "expect", desc := "(I)V" } : Jvm.MethodName) prog_8_method_28_code 3 (Option.none : Option Jvm.ClassFile.FieldType)) ∈ gA := gA_in (List.mem_of_getElem? (i := 731) (by decide +kernel)) (by decide +kernel)
theorem kw_665 : (Jvm.Cond.methodLink "PassedTokenModel" 171 ({ cls := "PassedTokenModel", name := "take", desc := "()I" } : Jvm.MethodName)) ∈ gA := gA_in (List.mem_of_getElem? (i := 732) (by decide +kernel)) (by decide +kernel)
theorem kw_667 : (Jvm.Cond.instanceMethod ({ cls := "PassedTokenModel", name := "take", desc := "()I" } : Jvm.MethodName)) ∈ gA := gA_in (List.mem_of_getElem? (i := 734) (by decide +kernel)) (by decide +kernel)
theorem kw_668 : (Jvm.Cond.code ({ cls := "PassedTokenModel", name := "take", desc := "()I" } : Jvm.MethodName) prog_8_method_27_code 1 (Option.some Jvm.ClassFile.FieldType.int)) ∈ gA := gA_in (List.mem_of_getElem? (i := 735) (by decide +kernel)) (by decide +kernel)
theorem kw_669 : (Jvm.Cond.methodLink "PassedTokenModel" 182 ({ cls := "PassedTokenModel", name := "takeInt", desc := "()I" } : Jvm.MethodName)) ∈ gA := gA_in (List.mem_of_getElem? (i := 736) (by decide +kernel)) (by decide +kernel)
theorem kw_671 : (Jvm.Cond.instanceMethod ({ cls := "PassedTokenModel", name := "takeInt", desc := "()I" } : Jvm.MethodName)) ∈ gA := gA_in (List.mem_of_getElem? (i := 738) (by decide +kernel)) (by decide +kernel)
theorem kw_672 : (Jvm.Cond.code ({ cls := "PassedTokenModel", name := "takeInt", desc := "()I" } : Jvm.MethodName) prog_8_method_30_code 3 (Option.some Jvm.ClassFile.FieldType.int)) ∈ gA := gA_in (List.mem_of_getElem? (i := 739) (by decide +kernel)) (by decide +kernel)
theorem kw_673 : (Jvm.Cond.methodLink "PassedTokenModel" 185 ({ cls := "PassedTokenModel", name := "isNext", desc := "(I)Z" } : Jvm.MethodName)) ∈ gA := gA_in (List.mem_of_getElem? (i := 740) (by decide +kernel)) (by decide +kernel)
theorem kw_675 : (Jvm.Cond.instanceMethod ({ cls := "PassedTokenModel", name := "isNext", desc := "(I)Z" } : Jvm.MethodName)) ∈ gA := gA_in (List.mem_of_getElem? (i := 742) (by decide +kernel)) (by decide +kernel)
theorem kw_676 : (Jvm.Cond.code ({ cls := "PassedTokenModel", name := "isNext", desc := "(I)Z" } : Jvm.MethodName) prog_8_method_29_code 2 (Option.some Jvm.ClassFile.FieldType.boolean)) ∈ gA := gA_in (List.mem_of_getElem? (i := 743) (by decide +kernel)) (by decide +kernel)
theorem kw_677 : (Jvm.Cond.methodLink "PassedTokenModel" 189 ({ cls := "PassedTokenModel", name := "answerTo", desc := "(IIIIIII)V" } : Jvm.MethodName)) ∈ gA := gA_in (List.mem_of_getElem? (i := 744) (by decide +kernel)) (by decide +kernel)
theorem kw_679 : (Jvm.Cond.instanceMethod ({ cls := "PassedTokenModel", name := "answerTo", desc := "(IIIIIII)V" } : Jvm.MethodName)) ∈ gA := gA_in (List.mem_of_getElem? (i := 746) (by decide +kernel)) (by decide +kernel)
theorem kw_680 : (Jvm.Cond.code ({ cls := "PassedTokenModel", name := "answerTo", desc := "(IIIIIII)V" } : Jvm.MethodName) prog_8_method_33_code 11 (Option.none : Option Jvm.ClassFile.FieldType)) ∈ gA := gA_in (List.mem_of_getElem? (i := 747) (by decide +kernel)) (by decide +kernel)
theorem kw_681 : (Jvm.Cond.methodLink "PassedTokenModel" 193 ({ cls := "PassedTokenModel", name := "thingOf", desc := "(I)I" } : Jvm.MethodName)) ∈ gA := gA_in (List.mem_of_getElem? (i := 748) (by decide +kernel)) (by decide +kernel)
theorem kw_682 : (Jvm.Cond.static ({ cls := "PassedTokenModel", name := "thingOf", desc := "(I)I" } : Jvm.MethodName)) ∈ gA := gA_in (List.mem_of_getElem? (i := 749) (by decide +kernel)) (by decide +kernel)
theorem kw_683 : (Jvm.Cond.code ({ cls := "PassedTokenModel", name := "thingOf", desc := "(I)I" } : Jvm.MethodName) prog_8_method_22_code 3 (Option.some Jvm.ClassFile.FieldType.int)) ∈ gA := gA_in (List.mem_of_getElem? (i := 750) (by decide +kernel)) (by decide +kernel)
theorem kw_684 : (Jvm.Cond.constant "PassedTokenModel" 158 (4194303 : Int32)) ∈ gA := gA_in (List.mem_of_getElem? (i := 751) (by decide +kernel)) (by decide +kernel)
theorem kw_685 : (Jvm.Cond.methodLink "PassedTokenModel" 196 ({ cls := "PassedTokenModel", name := "wrong", desc := "(IIIII)I" } : Jvm.MethodName)) ∈ gA := gA_in (List.mem_of_getElem? (i := 752) (by decide +kernel)) (by decide +kernel)
theorem kw_686 : (Jvm.Cond.static ({ cls := "PassedTokenModel", name := "wrong", desc := "(IIIII)I" } : Jvm.MethodName)) ∈ gA := gA_in (List.mem_of_getElem? (i := 753) (by decide +kernel)) (by decide +kernel)
theorem kw_687 : (Jvm.Cond.code ({ cls := "PassedTokenModel", name := "wrong", desc := "(IIIII)I" } : Jvm.MethodName) prog_8_method_34_code 6 (Option.some Jvm.ClassFile.FieldType.int)) ∈ gA := gA_in (List.mem_of_getElem? (i := 754) (by decide +kernel)) (by decide +kernel)
theorem kw_688 : (Jvm.Cond.methodLink "PassedTokenModel" 200 ({ cls := "PassedTokenModel", name := "tell", desc := "(IIIII)V" } : Jvm.MethodName)) ∈ gA := gA_in (List.mem_of_getElem? (i := 755) (by decide +kernel)) (by decide +kernel)
theorem kw_690 : (Jvm.Cond.instanceMethod ({ cls := "PassedTokenModel", name := "tell", desc := "(IIIII)V" } : Jvm.MethodName)) ∈ gA := gA_in (List.mem_of_getElem? (i := 757) (by decide +kernel)) (by decide +kernel)
theorem kw_691 : (Jvm.Cond.code ({ cls := "PassedTokenModel", name := "tell", desc := "(IIIII)V" } : Jvm.MethodName) prog_8_method_35_code 6 (Option.none : Option Jvm.ClassFile.FieldType)) ∈ gA := gA_in (List.mem_of_getElem? (i := 758) (by decide +kernel)) (by decide +kernel)
theorem kw_692 : (Jvm.Cond.methodLink "PassedTokenModel" 162 ({ cls := "PassedTokenModel", name := "addInt", desc := "(I)V" } : Jvm.MethodName)) ∈ gA := gA_in (List.mem_of_getElem? (i := 759) (by decide +kernel)) (by decide +kernel)
theorem kw_694 : (Jvm.Cond.instanceMethod ({ cls := "PassedTokenModel", name := "addInt", desc := "(I)V" } : Jvm.MethodName)) ∈ gA := gA_in (List.mem_of_getElem? (i := 761) (by decide +kernel)) (by decide +kernel)
theorem kw_695 : (Jvm.Cond.code ({ cls := "PassedTokenModel", name := "addInt", desc := "(I)V" } : Jvm.MethodName) prog_8_method_25_code 3 (Option.none : Option Jvm.ClassFile.FieldType)) ∈ gA := gA_in (List.mem_of_getElem? (i := 762) (by decide +kernel)) (by decide +kernel)
theorem kw_696 : (Jvm.Cond.methodLink "PassedTokenModel" 204 ({ cls := "PassedTokenModel", name := "presentOf", desc := "(I)I" } : Jvm.MethodName)) ∈ gA := gA_in (List.mem_of_getElem? (i := 763) (by decide +kernel)) (by decide +kernel)
theorem kw_698 : (Jvm.Cond.instanceMethod ({ cls := "PassedTokenModel", name := "presentOf", desc := "(I)I" } : Jvm.MethodName)) ∈ gA := gA_in (List.mem_of_getElem? (i := 765) (by decide +kernel)) (by decide +kernel)
theorem kw_699 : (Jvm.Cond.code ({ cls := "PassedTokenModel", name := "presentOf", desc := "(I)I" } : Jvm.MethodName) prog_8_method_23_code 4 (Option.some Jvm.ClassFile.FieldType.int)) ∈ gA := gA_in (List.mem_of_getElem? (i := 766) (by decide +kernel)) (by decide +kernel)
theorem kw_700 : (Jvm.Cond.methodLink "PassedTokenModel" 207 ({ cls := "PassedTokenModel", name := "addValue", desc := "(II)V" } : Jvm.MethodName)) ∈ gA := gA_in (List.mem_of_getElem? (i := 767) (by decide +kernel)) (by decide +kernel)
theorem kw_702 : (Jvm.Cond.instanceMethod ({ cls := "PassedTokenModel", name := "addValue", desc := "(II)V" } : Jvm.MethodName)) ∈ gA := gA_in (List.mem_of_getElem? (i := 769) (by decide +kernel)) (by decide +kernel)
theorem kw_703 : (Jvm.Cond.code ({ cls := "PassedTokenModel", name := "addValue", desc := "(II)V" } : Jvm.MethodName) prog_8_method_26_code 3 (Option.none : Option Jvm.ClassFile.FieldType)) ∈ gA := gA_in (List.mem_of_getElem? (i := 770) (by decide +kernel)) (by decide +kernel)
theorem kw_704 : (Jvm.Cond.methodLink "PassedTokenModel" 106 ({ cls := "PassedTokenModel", name := "use", desc := "()Z" } : Jvm.MethodName)) ∈ gA := gA_in (List.mem_of_getElem? (i := 771) (by decide +kernel)) (by decide +kernel)
theorem kw_706 : (Jvm.Cond.instanceMethod ({ cls := "PassedTokenModel", name := "use", desc := "()Z" } : Jvm.MethodName)) ∈ gA := gA_in (List.mem_of_getElem? (i := 773) (by decide +kernel)) (by decide +kernel)
theorem kw_707 : (Jvm.Cond.code ({ cls := "PassedTokenModel", name := "use", desc := "()Z" } : Jvm.MethodName) prog_8_method_16_code 2 (Option.some Jvm.ClassFile.FieldType.boolean)) ∈ gA := gA_in (List.mem_of_getElem? (i := 774) (by decide +kernel)) (by decide +kernel)
theorem kw_708 : (Jvm.Cond.methodLink "PassedTokenModel" 109 ({ cls := "PassedTokenModel", name := "awaits", desc := "()Z" } : Jvm.MethodName)) ∈ gA := gA_in (List.mem_of_getElem? (i := 775) (by decide +kernel)) (by decide +kernel)
theorem kw_710 : (Jvm.Cond.instanceMethod ({ cls := "PassedTokenModel", name := "awaits", desc := "()Z" } : Jvm.MethodName)) ∈ gA := gA_in (List.mem_of_getElem? (i := 777) (by decide +kernel)) (by decide +kernel)
theorem kw_711 : (Jvm.Cond.code ({ cls := "PassedTokenModel", name := "awaits", desc := "()Z" } : Jvm.MethodName) prog_8_method_17_code 3 (Option.some Jvm.ClassFile.FieldType.boolean)) ∈ gA := gA_in (List.mem_of_getElem? (i := 778) (by decide +kernel)) (by decide +kernel)
theorem kw_712 : (Jvm.Cond.methodLink "PassedTokenModel" 112 ({ cls := "PassedTokenModel", name := "done", desc := "()Z" } : Jvm.MethodName)) ∈ gA := gA_in (List.mem_of_getElem? (i := 779) (by decide +kernel)) (by decide +kernel)
theorem kw_714 : (Jvm.Cond.instanceMethod ({ cls := "PassedTokenModel", name := "done", desc := "()Z" } : Jvm.MethodName)) ∈ gA := gA_in (List.mem_of_getElem? (i := 781) (by decide +kernel)) (by decide +kernel)
theorem kw_715 : (Jvm.Cond.code ({ cls := "PassedTokenModel", name := "done", desc := "()Z" } : Jvm.MethodName) prog_8_method_18_code 1 (Option.some Jvm.ClassFile.FieldType.boolean)) ∈ gA := gA_in (List.mem_of_getElem? (i := 782) (by decide +kernel)) (by decide +kernel)
theorem kw_716 : (Jvm.Cond.methodLink "PassedTokenModel" 142 ({ cls := "PassedTokenModel", name := "behind", desc := "(I)I" } : Jvm.MethodName)) ∈ gA := gA_in (List.mem_of_getElem? (i := 783) (by decide +kernel)) (by decide +kernel)
theorem kw_718 : (Jvm.Cond.instanceMethod ({ cls := "PassedTokenModel", name := "behind", desc := "(I)I" } : Jvm.MethodName)) ∈ gA := gA_in (List.mem_of_getElem? (i := 785) (by decide +kernel)) (by decide +kernel)
theorem kw_719 : (Jvm.Cond.code ({ cls := "PassedTokenModel", name := "behind", desc := "(I)I" } : Jvm.MethodName) prog_8_method_2_code 2 (Option.some Jvm.ClassFile.FieldType.int)) ∈ gA := gA_in (List.mem_of_getElem? (i := 786) (by decide +kernel)) (by decide +kernel)
theorem kw_720 : (Jvm.Cond.methodLink "PassedTokenModel" 146 ({ cls := "PassedTokenModel", name := "poll", desc := "(I)V" } : Jvm.MethodName)) ∈ gA := gA_in (List.mem_of_getElem? (i := 787) (by decide +kernel)) (by decide +kernel)
theorem kw_722 : (Jvm.Cond.instanceMethod ({ cls := "PassedTokenModel", name := "poll", desc := "(I)V" } : Jvm.MethodName)) ∈ gA := gA_in (List.mem_of_getElem? (i := 789) (by decide +kernel)) (by decide +kernel)
theorem kw_723 : (Jvm.Cond.code ({ cls := "PassedTokenModel", name := "poll", desc := "(I)V" } : Jvm.MethodName) prog_8_method_7_code 2 (Option.none : Option Jvm.ClassFile.FieldType)) ∈ gA := gA_in (List.mem_of_getElem? (i := 790) (by decide +kernel)) (by decide +kernel)
theorem kw_724 : (Jvm.Cond.methodLink "PassedTokenModel" 155 ({ cls := "PassedTokenModel", name := "pass", desc := "()V" } : Jvm.MethodName)) ∈ gA := gA_in (List.mem_of_getElem? (i := 791) (by decide +kernel)) (by decide +kernel)
theorem kw_726 : (Jvm.Cond.instanceMethod ({ cls := "PassedTokenModel", name := "pass", desc := "()V" } : Jvm.MethodName)) ∈ gA := gA_in (List.mem_of_getElem? (i := 793) (by decide +kernel)) (by decide +kernel)
theorem kw_727 : (Jvm.Cond.code ({ cls := "PassedTokenModel", name := "pass", desc := "()V" } : Jvm.MethodName) prog_8_method_8_code 1 (Option.none : Option Jvm.ClassFile.FieldType)) ∈ gA := gA_in (List.mem_of_getElem? (i := 794) (by decide +kernel)) (by decide +kernel)
theorem kw_728 : (Jvm.Cond.methodLink "PassedTokenModel" 115 ({ cls := "PassedTokenModel", name := "passing", desc := "()Z" } : Jvm.MethodName)) ∈ gA := gA_in (List.mem_of_getElem? (i := 795) (by decide +kernel)) (by decide +kernel)
theorem kw_730 : (Jvm.Cond.instanceMethod ({ cls := "PassedTokenModel", name := "passing", desc := "()Z" } : Jvm.MethodName)) ∈ gA := gA_in (List.mem_of_getElem? (i := 797) (by decide +kernel)) (by decide +kernel)
theorem kw_731 : (Jvm.Cond.code ({ cls := "PassedTokenModel", name := "passing", desc := "()Z" } : Jvm.MethodName) prog_8_method_19_code 1 (Option.some Jvm.ClassFile.FieldType.boolean)) ∈ gA := gA_in (List.mem_of_getElem? (i := 798) (by decide +kernel)) (by decide +kernel)
theorem kw_732 : (Jvm.Cond.methodLink "PassedTokenModel" 118 ({ cls := "PassedTokenModel", name := "lost", desc := "()Z" } : Jvm.MethodName)) ∈ gA := gA_in (List.mem_of_getElem? (i := 799) (by decide +kernel)) (by decide +kernel)
theorem kw_734 : (Jvm.Cond.instanceMethod ({ cls := "PassedTokenModel", name := "lost", desc := "()Z" } : Jvm.MethodName)) ∈ gA := gA_in (List.mem_of_getElem? (i := 801) (by decide +kernel)) (by decide +kernel)
theorem kw_735 : (Jvm.Cond.code ({ cls := "PassedTokenModel", name := "lost", desc := "()Z" } : Jvm.MethodName) prog_8_method_20_code 1 (Option.some Jvm.ClassFile.FieldType.boolean)) ∈ gA := gA_in (List.mem_of_getElem? (i := 802) (by decide +kernel)) (by decide +kernel)
theorem kw_736 : (Jvm.Cond.methodLink "PassedTokenModel" 121 ({ cls := "PassedTokenModel", name := "polling", desc := "()Z" } : Jvm.MethodName)) ∈ gA := gA_in (List.mem_of_getElem? (i := 803) (by decide +kernel)) (by decide +kernel)
theorem kw_738 : (Jvm.Cond.instanceMethod ({ cls := "PassedTokenModel", name := "polling", desc := "()Z" } : Jvm.MethodName)) ∈ gA := gA_in (List.mem_of_getElem? (i := 805) (by decide +kernel)) (by decide +kernel)
theorem kw_739 : (Jvm.Cond.code ({ cls := "PassedTokenModel", name := "polling", desc := "()Z" } : Jvm.MethodName) prog_8_method_21_code 3 (Option.some Jvm.ClassFile.FieldType.boolean)) ∈ gA := gA_in (List.mem_of_getElem? (i := 806) (by decide +kernel)) (by decide +kernel)
theorem kw_740 : (Jvm.Cond.methodLink "PassedTokenLaw" 29 ({ cls := "PassedTokenModel", name := "quiet", desc := "(I)I" } : Jvm.MethodName)) ∈ gA := gA_in (List.mem_of_getElem? (i := 807) (by decide +kernel)) (by decide +kernel)
theorem kw_741 : (Jvm.Cond.instanceMethod ({ cls := "PassedTokenModel", name := "quiet", desc := "(I)I" } : Jvm.MethodName)) ∈ gA := gA_in (List.mem_of_getElem? (i := 808) (by decide +kernel)) (by decide +kernel)
theorem kw_742 : (Jvm.Cond.selects "PassedTokenModel" ({ cls := "PassedTokenModel", name := "quiet", desc := "(I)I" } : Jvm.MethodName) ({ cls := "PassedTokenModel", name := "quiet", desc := "(I)I" } : Jvm.MethodName)) ∈ gA := gA_in (List.mem_of_getElem? (i := 809) (by decide +kernel)) (by decide +kernel)
theorem kw_743 : (Jvm.Cond.code ({ cls := "PassedTokenModel", name := "quiet", desc := "(I)I" } : Jvm.MethodName) prog_8_method_37_code 3 (Option.some Jvm.ClassFile.FieldType.int)) ∈ gA := gA_in (List.mem_of_getElem? (i := 810) (by decide +kernel)) (by decide +kernel)
theorem kw_744 : (Jvm.Cond.methodLink "PassedTokenLaw" 33 ({ cls := "PassedTokenModel", name := "sent", desc := "(I)I" } : Jvm.MethodName)) ∈ gA := gA_in (List.mem_of_getElem? (i := 811) (by decide +kernel)) (by decide +kernel)
theorem kw_745 : (Jvm.Cond.instanceMethod ({ cls := "PassedTokenModel", name := "sent", desc := "(I)I" } : Jvm.MethodName)) ∈ gA := gA_in (List.mem_of_getElem? (i := 812) (by decide +kernel)) (by decide +kernel)
theorem kw_746 : (Jvm.Cond.selects "PassedTokenModel" ({ cls := "PassedTokenModel", name := "sent", desc := "(I)I" } : Jvm.MethodName) ({ cls := "PassedTokenModel", name := "sent", desc := "(I)I" } : Jvm.MethodName)) ∈ gA := gA_in (List.mem_of_getElem? (i := 813) (by decide +kernel)) (by decide +kernel)
theorem kw_747 : (Jvm.Cond.code ({ cls := "PassedTokenModel", name := "sent", desc := "(I)I" } : Jvm.MethodName) prog_8_method_38_code 2 (Option.some Jvm.ClassFile.FieldType.int)) ∈ gA := gA_in (List.mem_of_getElem? (i := 814) (by decide +kernel)) (by decide +kernel)
theorem kw_748 : (Jvm.Cond.methodLink "PassedTokenLaw" 38 ({ cls := "PassedTokenModel", name := "ask", desc := "(IIIII)Z" } : Jvm.MethodName)) ∈ gA := gA_in (List.mem_of_getElem? (i := 815) (by decide +kernel)) (by decide +kernel)
theorem kw_749 : (Jvm.Cond.instanceMethod ({ cls := "PassedTokenModel", name := "ask", desc := "(IIIII)Z" } : Jvm.MethodName)) ∈ gA := gA_in (List.mem_of_getElem? (i := 816) (by decide +kernel)) (by decide +kernel)
theorem kw_750 : (Jvm.Cond.selects "PassedTokenModel" ({ cls := "PassedTokenModel", name := "ask", desc := "(IIIII)Z" } : Jvm.MethodName) ({ cls := "PassedTokenModel", name := "ask", desc := "(IIIII)Z" } : Jvm.MethodName)) ∈ gA := gA_in (List.mem_of_getElem? (i := 817) (by decide +kernel)) (by decide +kernel)
theorem kw_751 : (Jvm.Cond.code ({ cls := "PassedTokenModel", name := "ask", desc := "(IIIII)Z" } : Jvm.MethodName) prog_8_method_39_code 8 (Option.some Jvm.ClassFile.FieldType.boolean)) ∈ gA := gA_in (List.mem_of_getElem? (i := 818) (by decide +kernel)) (by decide +kernel)
theorem kw_752 : (Jvm.Cond.methodLink "PassedTokenLaw" 43 ({ cls := "PassedTokenModel", name := "replied", desc := "()I" } : Jvm.MethodName)) ∈ gA := gA_in (List.mem_of_getElem? (i := 819) (by decide +kernel)) (by decide +kernel)
theorem kw_753 : (Jvm.Cond.instanceMethod ({ cls := "PassedTokenModel", name := "replied", desc := "()I" } : Jvm.MethodName)) ∈ gA := gA_in (List.mem_of_getElem? (i := 820) (by decide +kernel)) (by decide +kernel)
theorem kw_754 : (Jvm.Cond.selects "PassedTokenModel" ({ cls := "PassedTokenModel", name := "replied", desc := "()I" } : Jvm.MethodName) ({ cls := "PassedTokenModel", name := "replied", desc := "()I" } : Jvm.MethodName)) ∈ gA := gA_in (List.mem_of_getElem? (i := 821) (by decide +kernel)) (by decide +kernel)
theorem kw_755 : (Jvm.Cond.code ({ cls := "PassedTokenModel", name := "replied", desc := "()I" } : Jvm.MethodName) prog_8_method_40_code 1 (Option.some Jvm.ClassFile.FieldType.int)) ∈ gA := gA_in (List.mem_of_getElem? (i := 822) (by decide +kernel)) (by decide +kernel)
theorem kw_756 : (Jvm.Cond.methodLink "PassedTokenLaw" 47 ({ cls := "PassedTokenModel", name := "reply", desc := "(I)I" } : Jvm.MethodName)) ∈ gA := gA_in (List.mem_of_getElem? (i := 823) (by decide +kernel)) (by decide +kernel)
theorem kw_757 : (Jvm.Cond.instanceMethod ({ cls := "PassedTokenModel", name := "reply", desc := "(I)I" } : Jvm.MethodName)) ∈ gA := gA_in (List.mem_of_getElem? (i := 824) (by decide +kernel)) (by decide +kernel)
theorem kw_758 : (Jvm.Cond.selects "PassedTokenModel" ({ cls := "PassedTokenModel", name := "reply", desc := "(I)I" } : Jvm.MethodName) ({ cls := "PassedTokenModel", name := "reply", desc := "(I)I" } : Jvm.MethodName)) ∈ gA := gA_in (List.mem_of_getElem? (i := 825) (by decide +kernel)) (by decide +kernel)
theorem kw_759 : (Jvm.Cond.code ({ cls := "PassedTokenModel", name := "reply", desc := "(I)I" } : Jvm.MethodName) prog_8_method_41_code 2 (Option.some Jvm.ClassFile.FieldType.int)) ∈ gA := gA_in (List.mem_of_getElem? (i := 826) (by decide +kernel)) (by decide +kernel)
theorem kw_760 : (Jvm.Cond.methodLink "PassedTokenLaw" 51 ({ cls := "PassedTokenModel", name := "state", desc := "()I" } : Jvm.MethodName)) ∈ gA := gA_in (List.mem_of_getElem? (i := 827) (by decide +kernel)) (by decide +kernel)
theorem kw_761 : (Jvm.Cond.instanceMethod ({ cls := "PassedTokenModel", name := "state", desc := "()I" } : Jvm.MethodName)) ∈ gA := gA_in (List.mem_of_getElem? (i := 828) (by decide +kernel)) (by decide +kernel)
theorem kw_762 : (Jvm.Cond.selects "PassedTokenModel" ({ cls := "PassedTokenModel", name := "state", desc := "()I" } : Jvm.MethodName) ({ cls := "PassedTokenModel", name := "state", desc := "()I" } : Jvm.MethodName)) ∈ gA := gA_in (List.mem_of_getElem? (i := 829) (by decide +kernel)) (by decide +kernel)
theorem kw_763 : (Jvm.Cond.code ({ cls := "PassedTokenModel", name := "state", desc := "()I" } : Jvm.MethodName) prog_8_method_42_code 1 (Option.some Jvm.ClassFile.FieldType.int)) ∈ gA := gA_in (List.mem_of_getElem? (i := 830) (by decide +kernel)) (by decide +kernel)
theorem kw_764 : (Jvm.Cond.methodLink "PassedTokenLaw" 55 ({ cls := "PassedTokenModel", name := "silence", desc := "()I" } : Jvm.MethodName)) ∈ gA := gA_in (List.mem_of_getElem? (i := 831) (by decide +kernel)) (by decide +kernel)
theorem kw_765 : (Jvm.Cond.instanceMethod ({ cls := "PassedTokenModel", name := "silence", desc := "()I" } : Jvm.MethodName)) ∈ gA := gA_in (List.mem_of_getElem? (i := 832) (by decide +kernel)) (by decide +kernel)
theorem kw_766 : (Jvm.Cond.selects "PassedTokenModel" ({ cls := "PassedTokenModel", name := "silence", desc := "()I" } : Jvm.MethodName) ({ cls := "PassedTokenModel", name := "silence", desc := "()I" } : Jvm.MethodName)) ∈ gA := gA_in (List.mem_of_getElem? (i := 833) (by decide +kernel)) (by decide +kernel)
theorem kw_767 : (Jvm.Cond.code ({ cls := "PassedTokenModel", name := "silence", desc := "()I" } : Jvm.MethodName) prog_8_method_43_code 1 (Option.some Jvm.ClassFile.FieldType.int)) ∈ gA := gA_in (List.mem_of_getElem? (i := 834) (by decide +kernel)) (by decide +kernel)
theorem kw_768 : (Jvm.Cond.methodLink "PassedTokenLaw" 60 ({ cls := "PassedTokenModel", name := "set", desc := "(IIIZ)Z" } : Jvm.MethodName)) ∈ gA := gA_in (List.mem_of_getElem? (i := 835) (by decide +kernel)) (by decide +kernel)
theorem kw_769 : (Jvm.Cond.instanceMethod ({ cls := "PassedTokenModel", name := "set", desc := "(IIIZ)Z" } : Jvm.MethodName)) ∈ gA := gA_in (List.mem_of_getElem? (i := 836) (by decide +kernel)) (by decide +kernel)
theorem kw_770 : (Jvm.Cond.selects "PassedTokenModel" ({ cls := "PassedTokenModel", name := "set", desc := "(IIIZ)Z" } : Jvm.MethodName) ({ cls := "PassedTokenModel", name := "set", desc := "(IIIZ)Z" } : Jvm.MethodName)) ∈ gA := gA_in (List.mem_of_getElem? (i := 837) (by decide +kernel)) (by decide +kernel)
theorem kw_771 : (Jvm.Cond.code ({ cls := "PassedTokenModel", name := "set", desc := "(IIIZ)Z" } : Jvm.MethodName) prog_8_method_44_code 5 (Option.some Jvm.ClassFile.FieldType.boolean)) ∈ gA := gA_in (List.mem_of_getElem? (i := 838) (by decide +kernel)) (by decide +kernel)
theorem kw_772 : (Jvm.Cond.methodLink "PassedTokenLaw" 64 ({ cls := "PassedTokenModel", name := "present", desc := "(I)I" } : Jvm.MethodName)) ∈ gA := gA_in (List.mem_of_getElem? (i := 839) (by decide +kernel)) (by decide +kernel)
theorem kw_773 : (Jvm.Cond.instanceMethod ({ cls := "PassedTokenModel", name := "present", desc := "(I)I" } : Jvm.MethodName)) ∈ gA := gA_in (List.mem_of_getElem? (i := 840) (by decide +kernel)) (by decide +kernel)
theorem kw_774 : (Jvm.Cond.selects "PassedTokenModel" ({ cls := "PassedTokenModel", name := "present", desc := "(I)I" } : Jvm.MethodName) ({ cls := "PassedTokenModel", name := "present", desc := "(I)I" } : Jvm.MethodName)) ∈ gA := gA_in (List.mem_of_getElem? (i := 841) (by decide +kernel)) (by decide +kernel)
theorem kw_775 : (Jvm.Cond.code ({ cls := "PassedTokenModel", name := "present", desc := "(I)I" } : Jvm.MethodName) prog_8_method_45_code 2 (Option.some Jvm.ClassFile.FieldType.int)) ∈ gA := gA_in (List.mem_of_getElem? (i := 842) (by decide +kernel)) (by decide +kernel)
theorem kw_s0 : (Jvm.Cond.selects "PassedToken$Ear" ({ cls := "PassedToken$Ear", name := "takeSecond", desc := "(I)V" } : Jvm.MethodName) ({ cls := "PassedToken$Ear", name := "takeSecond", desc := "(I)V" } : Jvm.MethodName)) ∈ gA := gA_in (List.mem_of_getElem? (i := 0) (by decide +kernel)) (by decide +kernel)
theorem kw_s1 : (Jvm.Cond.selects "PassedToken$Ear" ({ cls := "PassedToken$Ear", name := "takeHeader", desc := "(I)V" } : Jvm.MethodName) ({ cls := "PassedToken$Ear", name := "takeHeader", desc := "(I)V" } : Jvm.MethodName)) ∈ gA := gA_in (List.mem_of_getElem? (i := 1) (by decide +kernel)) (by decide +kernel)
theorem kw_s10 : (Jvm.Cond.selects "PassedToken$Desk" ({ cls := "PassedToken$Desk", name := "begin", desc := "(II)V" } : Jvm.MethodName) ({ cls := "PassedToken$Desk", name := "begin", desc := "(II)V" } : Jvm.MethodName)) ∈ gA := gA_in (List.mem_of_getElem? (i := 10) (by decide +kernel)) (by decide +kernel)
theorem kw_s11 : (Jvm.Cond.selects "PassedToken$Desk" ({ cls := "PassedToken$Desk", name := "takesPlace", desc := "()Z" } : Jvm.MethodName) ({ cls := "PassedToken$Desk", name := "takesPlace", desc := "()Z" } : Jvm.MethodName)) ∈ gA := gA_in (List.mem_of_getElem? (i := 11) (by decide +kernel)) (by decide +kernel)
theorem kw_s12 : (Jvm.Cond.selects "PassedToken$Desk" ({ cls := "PassedToken$Desk", name := "follows", desc := "(I)Z" } : Jvm.MethodName) ({ cls := "PassedToken$Desk", name := "follows", desc := "(I)Z" } : Jvm.MethodName)) ∈ gA := gA_in (List.mem_of_getElem? (i := 12) (by decide +kernel)) (by decide +kernel)
theorem kw_s13 : (Jvm.Cond.selects "PassedToken$Desk" ({ cls := "PassedToken$Desk", name := "nextInt", desc := "()I" } : Jvm.MethodName) ({ cls := "PassedToken$Desk", name := "nextInt", desc := "()I" } : Jvm.MethodName)) ∈ gA := gA_in (List.mem_of_getElem? (i := 13) (by decide +kernel)) (by decide +kernel)
theorem kw_s14 : (Jvm.Cond.selects "PassedToken$Desk" ({ cls := "PassedToken$Desk", name := "nextByte", desc := "()I" } : Jvm.MethodName) ({ cls := "PassedToken$Desk", name := "nextByte", desc := "()I" } : Jvm.MethodName)) ∈ gA := gA_in (List.mem_of_getElem? (i := 14) (by decide +kernel)) (by decide +kernel)
theorem kw_s15 : (Jvm.Cond.selects "PassedToken$Desk" ({ cls := "PassedToken$Desk", name := "takesWritten", desc := "()Z" } : Jvm.MethodName) ({ cls := "PassedToken$Desk", name := "takesWritten", desc := "()Z" } : Jvm.MethodName)) ∈ gA := gA_in (List.mem_of_getElem? (i := 15) (by decide +kernel)) (by decide +kernel)
theorem kw_s16 : (Jvm.Cond.selects "PassedToken$Desk" ({ cls := "PassedToken$Desk", name := "answerWellFormed", desc := "()V" } : Jvm.MethodName) ({ cls := "PassedToken$Desk", name := "answerWellFormed", desc := "()V" } : Jvm.MethodName)) ∈ gA := gA_in (List.mem_of_getElem? (i := 16) (by decide +kernel)) (by decide +kernel)
theorem kw_s17 : (Jvm.Cond.selects "PassedToken$Desk" ({ cls := "PassedToken$Desk", name := "thingOf", desc := "(I)LPassedToken$Thing;" } : Jvm.MethodName) ({ cls := "PassedToken$Desk", name := "thingOf", desc := "(I)LPassedToken$Thing;" } : Jvm.MethodName)) ∈ gA := gA_in (List.mem_of_getElem? (i := 17) (by decide +kernel)) (by decide +kernel)
theorem kw_s18 : (Jvm.Cond.selects "PassedToken$Desk" ({ cls := "PassedToken$Desk", name := "fault", desc := "()I" } : Jvm.MethodName) ({ cls := "PassedToken$Desk", name := "fault", desc := "()I" } : Jvm.MethodName)) ∈ gA := gA_in (List.mem_of_getElem? (i := 18) (by decide +kernel)) (by decide +kernel)
theorem kw_s19 : (Jvm.Cond.selects "PassedToken$Desk" ({ cls := "PassedToken$Desk", name := "faultOfWrite", desc := "()I" } : Jvm.MethodName) ({ cls := "PassedToken$Desk", name := "faultOfWrite", desc := "()I" } : Jvm.MethodName)) ∈ gA := gA_in (List.mem_of_getElem? (i := 19) (by decide +kernel)) (by decide +kernel)
theorem kw_s2 : (Jvm.Cond.selects "PassedToken$Ear" ({ cls := "PassedToken$Ear", name := "takeHeaderCheck", desc := "(I)I" } : Jvm.MethodName) ({ cls := "PassedToken$Ear", name := "takeHeaderCheck", desc := "(I)I" } : Jvm.MethodName)) ∈ gA := gA_in (List.mem_of_getElem? (i := 2) (by decide +kernel)) (by decide +kernel)
theorem kw_s20 : (Jvm.Cond.selects "PassedToken$Desk" ({ cls := "PassedToken$Desk", name := "write", desc := "()V" } : Jvm.MethodName) ({ cls := "PassedToken$Desk", name := "write", desc := "()V" } : Jvm.MethodName)) ∈ gA := gA_in (List.mem_of_getElem? (i := 20) (by decide +kernel)) (by decide +kernel)
theorem kw_s21 : (Jvm.Cond.selects "PassedToken$Desk" ({ cls := "PassedToken$Desk", name := "tellPlace", desc := "()V" } : Jvm.MethodName) ({ cls := "PassedToken$Desk", name := "tellPlace", desc := "()V" } : Jvm.MethodName)) ∈ gA := gA_in (List.mem_of_getElem? (i := 21) (by decide +kernel)) (by decide +kernel)
theorem kw_s22 : (Jvm.Cond.selects "PassedToken$Desk" ({ cls := "PassedToken$Desk", name := "tellProperty", desc := "()V" } : Jvm.MethodName) ({ cls := "PassedToken$Desk", name := "tellProperty", desc := "()V" } : Jvm.MethodName)) ∈ gA := gA_in (List.mem_of_getElem? (i := 22) (by decide +kernel)) (by decide +kernel)
theorem kw_s23 : (Jvm.Cond.selects "PassedToken$Desk" ({ cls := "PassedToken$Desk", name := "valueRead", desc := "()I" } : Jvm.MethodName) ({ cls := "PassedToken$Desk", name := "valueRead", desc := "()I" } : Jvm.MethodName)) ∈ gA := gA_in (List.mem_of_getElem? (i := 23) (by decide +kernel)) (by decide +kernel)
theorem kw_s24 : (Jvm.Cond.selects "PassedToken" ({ cls := "PassedToken", name := "sendAnswer", desc := "(LPassedToken$Row;)V" } : Jvm.MethodName) ({ cls := "PassedToken", name := "sendAnswer", desc := "(LPassedToken$Row;)V" } : Jvm.MethodName)) ∈ gA := gA_in (List.mem_of_getElem? (i := 24) (by decide +kernel)) (by decide +kernel)
theorem kw_s25 : (Jvm.Cond.selects "PassedToken" ({ cls := "PassedToken", name := "useLine", desc := "()Z" } : Jvm.MethodName) ({ cls := "PassedToken", name := "useLine", desc := "()Z" } : Jvm.MethodName)) ∈ gA := gA_in (List.mem_of_getElem? (i := 25) (by decide +kernel)) (by decide +kernel)
theorem kw_s26 : (Jvm.Cond.selects "PassedToken" ({ cls := "PassedToken", name := "waitLine", desc := "(I)Z" } : Jvm.MethodName) ({ cls := "PassedToken", name := "waitLine", desc := "(I)Z" } : Jvm.MethodName)) ∈ gA := gA_in (List.mem_of_getElem? (i := 26) (by decide +kernel)) (by decide +kernel)
theorem kw_s27 : (Jvm.Cond.selects "PassedToken" ({ cls := "PassedToken", name := "endsWaiting", desc := "()Z" } : Jvm.MethodName) ({ cls := "PassedToken", name := "endsWaiting", desc := "()Z" } : Jvm.MethodName)) ∈ gA := gA_in (List.mem_of_getElem? (i := 27) (by decide +kernel)) (by decide +kernel)
theorem kw_s28 : (Jvm.Cond.selects "PassedToken" ({ cls := "PassedToken", name := "doneLine", desc := "()Z" } : Jvm.MethodName) ({ cls := "PassedToken", name := "doneLine", desc := "()Z" } : Jvm.MethodName)) ∈ gA := gA_in (List.mem_of_getElem? (i := 28) (by decide +kernel)) (by decide +kernel)
theorem kw_s29 : (Jvm.Cond.selects "PassedToken" ({ cls := "PassedToken", name := "behind", desc := "(I)I" } : Jvm.MethodName) ({ cls := "PassedToken", name := "behind", desc := "(I)I" } : Jvm.MethodName)) ∈ gA := gA_in (List.mem_of_getElem? (i := 29) (by decide +kernel)) (by decide +kernel)
theorem kw_s3 : (Jvm.Cond.selects "PassedToken$Ear" ({ cls := "PassedToken$Ear", name := "dataBytes", desc := "()I" } : Jvm.MethodName) ({ cls := "PassedToken$Ear", name := "dataBytes", desc := "()I" } : Jvm.MethodName)) ∈ gA := gA_in (List.mem_of_getElem? (i := 3) (by decide +kernel)) (by decide +kernel)
theorem kw_s30 : (Jvm.Cond.selects "PassedToken" ({ cls := "PassedToken", name := "poll", desc := "(I)V" } : Jvm.MethodName) ({ cls := "PassedToken", name := "poll", desc := "(I)V" } : Jvm.MethodName)) ∈ gA := gA_in (List.mem_of_getElem? (i := 30) (by decide +kernel)) (by decide +kernel)
theorem kw_s31 : (Jvm.Cond.selects "PassedToken" ({ cls := "PassedToken", name := "pass", desc := "(I)V" } : Jvm.MethodName) ({ cls := "PassedToken", name := "pass", desc := "(I)V" } : Jvm.MethodName)) ∈ gA := gA_in (List.mem_of_getElem? (i := 31) (by decide +kernel)) (by decide +kernel)
theorem kw_s32 : (Jvm.Cond.selects "PassedToken" ({ cls := "PassedToken", name := "passingLine", desc := "()Z" } : Jvm.MethodName) ({ cls := "PassedToken", name := "passingLine", desc := "()Z" } : Jvm.MethodName)) ∈ gA := gA_in (List.mem_of_getElem? (i := 32) (by decide +kernel)) (by decide +kernel)
theorem kw_s33 : (Jvm.Cond.selects "PassedToken" ({ cls := "PassedToken", name := "lostLine", desc := "()Z" } : Jvm.MethodName) ({ cls := "PassedToken", name := "lostLine", desc := "()Z" } : Jvm.MethodName)) ∈ gA := gA_in (List.mem_of_getElem? (i := 33) (by decide +kernel)) (by decide +kernel)
theorem kw_s34 : (Jvm.Cond.selects "PassedToken" ({ cls := "PassedToken", name := "answeredLine", desc := "()Z" } : Jvm.MethodName) ({ cls := "PassedToken", name := "answeredLine", desc := "()Z" } : Jvm.MethodName)) ∈ gA := gA_in (List.mem_of_getElem? (i := 34) (by decide +kernel)) (by decide +kernel)
theorem kw_s35 : (Jvm.Cond.selects "PassedToken" ({ cls := "PassedToken", name := "isOtherStation", desc := "(I)Z" } : Jvm.MethodName) ({ cls := "PassedToken", name := "isOtherStation", desc := "(I)Z" } : Jvm.MethodName)) ∈ gA := gA_in (List.mem_of_getElem? (i := 35) (by decide +kernel)) (by decide +kernel)
theorem kw_s36 : (Jvm.Cond.selects "PassedToken" ({ cls := "PassedToken", name := "unansweredLine", desc := "(I)Z" } : Jvm.MethodName) ({ cls := "PassedToken", name := "unansweredLine", desc := "(I)Z" } : Jvm.MethodName)) ∈ gA := gA_in (List.mem_of_getElem? (i := 36) (by decide +kernel)) (by decide +kernel)
theorem kw_s37 : (Jvm.Cond.selects "PassedTokenModel" ({ cls := "PassedTokenModel", name := "listen", desc := "(I)V" } : Jvm.MethodName) ({ cls := "PassedTokenModel", name := "listen", desc := "(I)V" } : Jvm.MethodName)) ∈ gA := gA_in (List.mem_of_getElem? (i := 37) (by decide +kernel)) (by decide +kernel)
theorem kw_s38 : (Jvm.Cond.selects "PassedTokenModel" ({ cls := "PassedTokenModel", name := "endHeader", desc := "()V" } : Jvm.MethodName) ({ cls := "PassedTokenModel", name := "endHeader", desc := "()V" } : Jvm.MethodName)) ∈ gA := gA_in (List.mem_of_getElem? (i := 38) (by decide +kernel)) (by decide +kernel)
theorem kw_s39 : (Jvm.Cond.selects "PassedTokenModel" ({ cls := "PassedTokenModel", name := "isForMe", desc := "()Z" } : Jvm.MethodName) ({ cls := "PassedTokenModel", name := "isForMe", desc := "()Z" } : Jvm.MethodName)) ∈ gA := gA_in (List.mem_of_getElem? (i := 39) (by decide +kernel)) (by decide +kernel)
theorem kw_s4 : (Jvm.Cond.selects "PassedToken$Ear" ({ cls := "PassedToken$Ear", name := "ended", desc := "()I" } : Jvm.MethodName) ({ cls := "PassedToken$Ear", name := "ended", desc := "()I" } : Jvm.MethodName)) ∈ gA := gA_in (List.mem_of_getElem? (i := 4) (by decide +kernel)) (by decide +kernel)
theorem kw_s40 : (Jvm.Cond.selects "PassedTokenModel" ({ cls := "PassedTokenModel", name := "endData", desc := "()V" } : Jvm.MethodName) ({ cls := "PassedTokenModel", name := "endData", desc := "()V" } : Jvm.MethodName)) ∈ gA := gA_in (List.mem_of_getElem? (i := 40) (by decide +kernel)) (by decide +kernel)
theorem kw_s41 : (Jvm.Cond.selects "PassedTokenModel" ({ cls := "PassedTokenModel", name := "settle", desc := "()V" } : Jvm.MethodName) ({ cls := "PassedTokenModel", name := "settle", desc := "()V" } : Jvm.MethodName)) ∈ gA := gA_in (List.mem_of_getElem? (i := 41) (by decide +kernel)) (by decide +kernel)
theorem kw_s42 : (Jvm.Cond.selects "PassedTokenModel" ({ cls := "PassedTokenModel", name := "step", desc := "()Z" } : Jvm.MethodName) ({ cls := "PassedTokenModel", name := "step", desc := "()Z" } : Jvm.MethodName)) ∈ gA := gA_in (List.mem_of_getElem? (i := 42) (by decide +kernel)) (by decide +kernel)
theorem kw_s43 : (Jvm.Cond.selects "PassedTokenModel" ({ cls := "PassedTokenModel", name := "idle", desc := "()Z" } : Jvm.MethodName) ({ cls := "PassedTokenModel", name := "idle", desc := "()Z" } : Jvm.MethodName)) ∈ gA := gA_in (List.mem_of_getElem? (i := 43) (by decide +kernel)) (by decide +kernel)
theorem kw_s44 : (Jvm.Cond.selects "PassedTokenModel" ({ cls := "PassedTokenModel", name := "send", desc := "(III)V" } : Jvm.MethodName) ({ cls := "PassedTokenModel", name := "send", desc := "(III)V" } : Jvm.MethodName)) ∈ gA := gA_in (List.mem_of_getElem? (i := 44) (by decide +kernel)) (by decide +kernel)
theorem kw_s45 : (Jvm.Cond.selects "PassedTokenModel" ({ cls := "PassedTokenModel", name := "put", desc := "(I)V" } : Jvm.MethodName) ({ cls := "PassedTokenModel", name := "put", desc := "(I)V" } : Jvm.MethodName)) ∈ gA := gA_in (List.mem_of_getElem? (i := 45) (by decide +kernel)) (by decide +kernel)
theorem kw_s46 : (Jvm.Cond.selects "PassedTokenModel" ({ cls := "PassedTokenModel", name := "makeAnswer", desc := "()V" } : Jvm.MethodName) ({ cls := "PassedTokenModel", name := "makeAnswer", desc := "()V" } : Jvm.MethodName)) ∈ gA := gA_in (List.mem_of_getElem? (i := 46) (by decide +kernel)) (by decide +kernel)
theorem kw_s47 : (Jvm.Cond.selects "PassedTokenModel" ({ cls := "PassedTokenModel", name := "reject", desc := "(II)V" } : Jvm.MethodName) ({ cls := "PassedTokenModel", name := "reject", desc := "(II)V" } : Jvm.MethodName)) ∈ gA := gA_in (List.mem_of_getElem? (i := 47) (by decide +kernel)) (by decide +kernel)
theorem kw_s48 : (Jvm.Cond.selects "PassedTokenModel" ({ cls := "PassedTokenModel", name := "add", desc := "(I)V" } : Jvm.MethodName) ({ cls := "PassedTokenModel", name := "add", desc := "(I)V" } : Jvm.MethodName)) ∈ gA := gA_in (List.mem_of_getElem? (i := 48) (by decide +kernel)) (by decide +kernel)
theorem kw_s49 : (Jvm.Cond.selects "PassedTokenModel" ({ cls := "PassedTokenModel", name := "expect", desc := "(I)V" } : Jvm.MethodName) ({ cls := "PassedTokenModel", name := "expect", desc := "(I)V" } : Jvm.MethodName)) ∈ gA := gA_in (List.mem_of_getElem? (i := 49) (by decide +kernel)) (by decide +kernel)
theorem kw_s5 : (Jvm.Cond.selects "PassedToken$Ear" ({ cls := "PassedToken$Ear", name := "takeData", desc := "(I)V" } : Jvm.MethodName) ({ cls := "PassedToken$Ear", name := "takeData", desc := "(I)V" } : Jvm.MethodName)) ∈ gA := gA_in (List.mem_of_getElem? (i := 5) (by decide +kernel)) (by decide +kernel)
theorem kw_s50 : (Jvm.Cond.selects "PassedTokenModel" ({ cls := "PassedTokenModel", name := "take", desc := "()I" } : Jvm.MethodName) ({ cls := "PassedTokenModel", name := "take", desc := "()I" } : Jvm.MethodName)) ∈ gA := gA_in (List.mem_of_getElem? (i := 50) (by decide +kernel)) (by decide +kernel)
theorem kw_s51 : (Jvm.Cond.selects "PassedTokenModel" ({ cls := "PassedTokenModel", name := "takeInt", desc := "()I" } : Jvm.MethodName) ({ cls := "PassedTokenModel", name := "takeInt", desc := "()I" } : Jvm.MethodName)) ∈ gA := gA_in (List.mem_of_getElem? (i := 51) (by decide +kernel)) (by decide +kernel)
theorem kw_s52 : (Jvm.Cond.selects "PassedTokenModel" ({ cls := "PassedTokenModel", name := "isNext", desc := "(I)Z" } : Jvm.MethodName) ({ cls := "PassedTokenModel", name := "isNext", desc := "(I)Z" } : Jvm.MethodName)) ∈ gA := gA_in (List.mem_of_getElem? (i := 52) (by decide +kernel)) (by decide +kernel)
theorem kw_s53 : (Jvm.Cond.selects "PassedTokenModel" ({ cls := "PassedTokenModel", name := "answerTo", desc := "(IIIIIII)V" } : Jvm.MethodName) ({ cls := "PassedTokenModel", name := "answerTo", desc := "(IIIIIII)V" } : Jvm.MethodName)) ∈ gA := gA_in (List.mem_of_getElem? (i := 53) (by decide +kernel)) (by decide +kernel)
theorem kw_s54 : (Jvm.Cond.selects "PassedTokenModel" ({ cls := "PassedTokenModel", name := "tell", desc := "(IIIII)V" } : Jvm.MethodName) ({ cls := "PassedTokenModel", name := "tell", desc := "(IIIII)V" } : Jvm.MethodName)) ∈ gA := gA_in (List.mem_of_getElem? (i := 54) (by decide +kernel)) (by decide +kernel)
theorem kw_s55 : (Jvm.Cond.selects "PassedTokenModel" ({ cls := "PassedTokenModel", name := "addInt", desc := "(I)V" } : Jvm.MethodName) ({ cls := "PassedTokenModel", name := "addInt", desc := "(I)V" } : Jvm.MethodName)) ∈ gA := gA_in (List.mem_of_getElem? (i := 55) (by decide +kernel)) (by decide +kernel)
theorem kw_s56 : (Jvm.Cond.selects "PassedTokenModel" ({ cls := "PassedTokenModel", name := "presentOf", desc := "(I)I" } : Jvm.MethodName) ({ cls := "PassedTokenModel", name := "presentOf", desc := "(I)I" } : Jvm.MethodName)) ∈ gA := gA_in (List.mem_of_getElem? (i := 56) (by decide +kernel)) (by decide +kernel)
theorem kw_s57 : (Jvm.Cond.selects "PassedTokenModel" ({ cls := "PassedTokenModel", name := "addValue", desc := "(II)V" } : Jvm.MethodName) ({ cls := "PassedTokenModel", name := "addValue", desc := "(II)V" } : Jvm.MethodName)) ∈ gA := gA_in (List.mem_of_getElem? (i := 57) (by decide +kernel)) (by decide +kernel)
theorem kw_s58 : (Jvm.Cond.selects "PassedTokenModel" ({ cls := "PassedTokenModel", name := "use", desc := "()Z" } : Jvm.MethodName) ({ cls := "PassedTokenModel", name := "use", desc := "()Z" } : Jvm.MethodName)) ∈ gA := gA_in (List.mem_of_getElem? (i := 58) (by decide +kernel)) (by decide +kernel)
theorem kw_s59 : (Jvm.Cond.selects "PassedTokenModel" ({ cls := "PassedTokenModel", name := "awaits", desc := "()Z" } : Jvm.MethodName) ({ cls := "PassedTokenModel", name := "awaits", desc := "()Z" } : Jvm.MethodName)) ∈ gA := gA_in (List.mem_of_getElem? (i := 59) (by decide +kernel)) (by decide +kernel)
theorem kw_s6 : (Jvm.Cond.selects "PassedToken$Ear" ({ cls := "PassedToken$Ear", name := "takeHighCheck", desc := "(I)I" } : Jvm.MethodName) ({ cls := "PassedToken$Ear", name := "takeHighCheck", desc := "(I)I" } : Jvm.MethodName)) ∈ gA := gA_in (List.mem_of_getElem? (i := 6) (by decide +kernel)) (by decide +kernel)
theorem kw_s60 : (Jvm.Cond.selects "PassedTokenModel" ({ cls := "PassedTokenModel", name := "done", desc := "()Z" } : Jvm.MethodName) ({ cls := "PassedTokenModel", name := "done", desc := "()Z" } : Jvm.MethodName)) ∈ gA := gA_in (List.mem_of_getElem? (i := 60) (by decide +kernel)) (by decide +kernel)
theorem kw_s61 : (Jvm.Cond.selects "PassedTokenModel" ({ cls := "PassedTokenModel", name := "behind", desc := "(I)I" } : Jvm.MethodName) ({ cls := "PassedTokenModel", name := "behind", desc := "(I)I" } : Jvm.MethodName)) ∈ gA := gA_in (List.mem_of_getElem? (i := 61) (by decide +kernel)) (by decide +kernel)
theorem kw_s62 : (Jvm.Cond.selects "PassedTokenModel" ({ cls := "PassedTokenModel", name := "poll", desc := "(I)V" } : Jvm.MethodName) ({ cls := "PassedTokenModel", name := "poll", desc := "(I)V" } : Jvm.MethodName)) ∈ gA := gA_in (List.mem_of_getElem? (i := 62) (by decide +kernel)) (by decide +kernel)
theorem kw_s63 : (Jvm.Cond.selects "PassedTokenModel" ({ cls := "PassedTokenModel", name := "pass", desc := "()V" } : Jvm.MethodName) ({ cls := "PassedTokenModel", name := "pass", desc := "()V" } : Jvm.MethodName)) ∈ gA := gA_in (List.mem_of_getElem? (i := 63) (by decide +kernel)) (by decide +kernel)
theorem kw_s64 : (Jvm.Cond.selects "PassedTokenModel" ({ cls := "PassedTokenModel", name := "passing", desc := "()Z" } : Jvm.MethodName) ({ cls := "PassedTokenModel", name := "passing", desc := "()Z" } : Jvm.MethodName)) ∈ gA := gA_in (List.mem_of_getElem? (i := 64) (by decide +kernel)) (by decide +kernel)
theorem kw_s65 : (Jvm.Cond.selects "PassedTokenModel" ({ cls := "PassedTokenModel", name := "lost", desc := "()Z" } : Jvm.MethodName) ({ cls := "PassedTokenModel", name := "lost", desc := "()Z" } : Jvm.MethodName)) ∈ gA := gA_in (List.mem_of_getElem? (i := 65) (by decide +kernel)) (by decide +kernel)
theorem kw_s66 : (Jvm.Cond.selects "PassedTokenModel" ({ cls := "PassedTokenModel", name := "polling", desc := "()Z" } : Jvm.MethodName) ({ cls := "PassedTokenModel", name := "polling", desc := "()Z" } : Jvm.MethodName)) ∈ gA := gA_in (List.mem_of_getElem? (i := 66) (by decide +kernel)) (by decide +kernel)
theorem kw_s7 : (Jvm.Cond.selects "PassedToken" ({ cls := "PassedToken", name := "settle", desc := "(I)V" } : Jvm.MethodName) ({ cls := "PassedToken", name := "settle", desc := "(I)V" } : Jvm.MethodName)) ∈ gA := gA_in (List.mem_of_getElem? (i := 7) (by decide +kernel)) (by decide +kernel)
theorem kw_s8 : (Jvm.Cond.selects "PassedToken" ({ cls := "PassedToken", name := "idleLine", desc := "(I)Z" } : Jvm.MethodName) ({ cls := "PassedToken", name := "idleLine", desc := "(I)Z" } : Jvm.MethodName)) ∈ gA := gA_in (List.mem_of_getElem? (i := 8) (by decide +kernel)) (by decide +kernel)
theorem kw_s9 : (Jvm.Cond.selects "PassedToken" ({ cls := "PassedToken", name := "send", desc := "(IILPassedToken$Row;)V" } : Jvm.MethodName) ({ cls := "PassedToken", name := "send", desc := "(IILPassedToken$Row;)V" } : Jvm.MethodName)) ∈ gA := gA_in (List.mem_of_getElem? (i := 9) (by decide +kernel)) (by decide +kernel)
theorem in_Row : ∀ w ∈ u_ws "PassedToken$Row" F_Row 2, w ∈ gA := fun w h => gA_in ((by decide +kernel : ∀ w ∈ u_ws "PassedToken$Row" F_Row 2, w ∈ lw_tbl) w h) ((by decide +kernel : ∀ w ∈ u_ws "PassedToken$Row" F_Row 2, goodWord w = true) w h)
theorem in_Thing : ∀ w ∈ u_ws "PassedToken$Thing" F_Thing 4, w ∈ gA := fun w h => gA_in ((by decide +kernel : ∀ w ∈ u_ws "PassedToken$Thing" F_Thing 4, w ∈ lw_tbl) w h) ((by decide +kernel : ∀ w ∈ u_ws "PassedToken$Thing" F_Thing 4, goodWord w = true) w h)
theorem in_Ear : ∀ w ∈ u_ws "PassedToken$Ear" F_Ear 6, w ∈ gA := fun w h => gA_in ((by decide +kernel : ∀ w ∈ u_ws "PassedToken$Ear" F_Ear 6, w ∈ lw_tbl) w h) ((by decide +kernel : ∀ w ∈ u_ws "PassedToken$Ear" F_Ear 6, goodWord w = true) w h)
theorem in_Desk : ∀ w ∈ u_ws "PassedToken$Desk" F_Desk 13, w ∈ gA := fun w h => gA_in ((by decide +kernel : ∀ w ∈ u_ws "PassedToken$Desk" F_Desk 13, w ∈ lw_tbl) w h) ((by decide +kernel : ∀ w ∈ u_ws "PassedToken$Desk" F_Desk 13, goodWord w = true) w h)
theorem in_PT : ∀ w ∈ u_ws "PassedToken" F_PT 18, w ∈ gA := fun w h => gA_in ((by decide +kernel : ∀ w ∈ u_ws "PassedToken" F_PT 18, w ∈ lw_tbl) w h) ((by decide +kernel : ∀ w ∈ u_ws "PassedToken" F_PT 18, goodWord w = true) w h)
theorem in_Mod : ∀ w ∈ u_ws "PassedTokenModel" F_Mod 29, w ∈ gA := fun w h => gA_in ((by decide +kernel : ∀ w ∈ u_ws "PassedTokenModel" F_Mod 29, w ∈ lw_tbl) w h) ((by decide +kernel : ∀ w ∈ u_ws "PassedTokenModel" F_Mod 29, goodWord w = true) w h)
theorem fy_PT_init : fx_Y y_PT_init b_PT_init 3 none 2 := ⟨kw_13, kw_1, by decide, by decide, by decide +kernel⟩
theorem fy_Row_init : fx_Y y_Row_init b_Row_init 2 none 1 := ⟨kw_21, kw_2, by decide, by decide, by decide +kernel⟩
theorem fy_Desk_init : fx_Y y_Desk_init b_Desk_init 1 none 0 := ⟨kw_35, kw_3, by decide, by decide, by decide +kernel⟩
theorem fy_Thing_init : fx_Y y_Thing_init b_Thing_init 3 none 2 := ⟨kw_44, kw_4, by decide, by decide, by decide +kernel⟩
theorem fy_Ear_init : fx_Y y_Ear_init b_Ear_init 2 none 1 := ⟨kw_111, kw_6, by decide, by decide, by decide +kernel⟩
theorem fy_PT_hear : fx_Y y_PT_hear b_PT_hear 2 (some FieldType.int) 1 := ⟨kw_192, kw_1, by decide, by decide, by decide +kernel⟩
theorem fv_PT_hear : fx_YV y_PT_hear := ⟨kw_190, kw_191⟩
theorem fy_PT_isByte : fx_Y y_PT_isByte b_PT_isByte 1 (some FieldType.boolean) 1 := ⟨kw_195, kw_1, by decide, by decide, by decide +kernel⟩
theorem fs_PT_isByte : Cond.static y_PT_isByte ∈ gA := kw_194
theorem fy_Row_clear : fx_Y y_Row_clear b_Row_clear 1 none 0 := ⟨kw_199, kw_2, by decide, by decide, by decide +kernel⟩
theorem fv_Row_clear : fx_YV y_Row_clear := ⟨kw_197, kw_198⟩
theorem fy_Ear_take : fx_Y y_Ear_take b_Ear_take 2 (some FieldType.int) 1 := ⟨kw_203, kw_6, by decide, by decide, by decide +kernel⟩
theorem fv_Ear_take : fx_YV y_Ear_take := ⟨kw_201, kw_202⟩
theorem fy_Ear_takeSecond : fx_Y y_Ear_takeSecond b_Ear_takeSecond 2 none 1 := ⟨kw_207, kw_6, by decide, by decide, by decide +kernel⟩
theorem fv_Ear_takeSecond : fx_YV y_Ear_takeSecond := ⟨kw_206, kw_s0⟩
theorem fy_Ear_takeHeader : fx_Y y_Ear_takeHeader b_Ear_takeHeader 2 none 1 := ⟨kw_212, kw_6, by decide, by decide, by decide +kernel⟩
theorem fv_Ear_takeHeader : fx_YV y_Ear_takeHeader := ⟨kw_211, kw_s1⟩
theorem fy_Row_put : fx_Y y_Row_put b_Row_put 2 none 1 := ⟨kw_216, kw_2, by decide, by decide, by decide +kernel⟩
theorem fv_Row_put : fx_YV y_Row_put := ⟨kw_214, kw_215⟩
theorem fy_Chk_withByte : fx_Y y_Chk_withByte b_Chk_withByte 5 (some FieldType.int) 3 := ⟨kw_219, kw_8, by decide, by decide, by decide +kernel⟩
theorem fs_Chk_withByte : Cond.static y_Chk_withByte ∈ gA := kw_218
theorem fy_Row_size : fx_Y y_Row_size b_Row_size 1 (some FieldType.int) 0 := ⟨kw_223, kw_2, by decide, by decide, by decide +kernel⟩
theorem fv_Row_size : fx_YV y_Row_size := ⟨kw_221, kw_222⟩
theorem fy_Ear_takeHeaderCheck : fx_Y y_Ear_takeHeaderCheck b_Ear_takeHeaderCheck 2 (some FieldType.int) 1 := ⟨kw_227, kw_6, by decide, by decide, by decide +kernel⟩
theorem fv_Ear_takeHeaderCheck : fx_YV y_Ear_takeHeaderCheck := ⟨kw_226, kw_s2⟩
theorem fy_Ear_dataBytes : fx_Y y_Ear_dataBytes b_Ear_dataBytes 1 (some FieldType.int) 0 := ⟨kw_231, kw_6, by decide, by decide, by decide +kernel⟩
theorem fv_Ear_dataBytes : fx_YV y_Ear_dataBytes := ⟨kw_230, kw_s3⟩
theorem fy_Row_at : fx_Y y_Row_at b_Row_at 2 (some FieldType.int) 1 := ⟨kw_235, kw_2, by decide, by decide, by decide +kernel⟩
theorem fv_Row_at : fx_YV y_Row_at := ⟨kw_233, kw_234⟩
theorem fy_Ear_ended : fx_Y y_Ear_ended b_Ear_ended 1 (some FieldType.int) 0 := ⟨kw_239, kw_6, by decide, by decide, by decide +kernel⟩
theorem fv_Ear_ended : fx_YV y_Ear_ended := ⟨kw_238, kw_s4⟩
theorem fy_Ear_to : fx_Y y_Ear_to b_Ear_to 1 (some FieldType.int) 0 := ⟨kw_243, kw_6, by decide, by decide, by decide +kernel⟩
theorem fv_Ear_to : fx_YV y_Ear_to := ⟨kw_241, kw_242⟩
theorem fy_Ear_takeData : fx_Y y_Ear_takeData b_Ear_takeData 2 none 1 := ⟨kw_248, kw_6, by decide, by decide, by decide +kernel⟩
theorem fv_Ear_takeData : fx_YV y_Ear_takeData := ⟨kw_247, kw_s5⟩
theorem fy_Ear_takeHighCheck : fx_Y y_Ear_takeHighCheck b_Ear_takeHighCheck 2 (some FieldType.int) 1 := ⟨kw_253, kw_6, by decide, by decide, by decide +kernel⟩
theorem fv_Ear_takeHighCheck : fx_YV y_Ear_takeHighCheck := ⟨kw_252, kw_s6⟩
theorem fy_PT_settle : fx_Y y_PT_settle b_PT_settle 5 none 1 := ⟨kw_257, kw_1, by decide, by decide, by decide +kernel⟩
theorem fv_PT_settle : fx_YV y_PT_settle := ⟨kw_256, kw_s7⟩
theorem fy_PT_idleLine : fx_Y y_PT_idleLine b_PT_idleLine 2 (some FieldType.boolean) 1 := ⟨kw_261, kw_1, by decide, by decide, by decide +kernel⟩
theorem fv_PT_idleLine : fx_YV y_PT_idleLine := ⟨kw_260, kw_s8⟩
theorem fy_Ear_type : fx_Y y_Ear_type b_Ear_type 1 (some FieldType.int) 0 := ⟨kw_266, kw_6, by decide, by decide, by decide +kernel⟩
theorem fv_Ear_type : fx_YV y_Ear_type := ⟨kw_264, kw_265⟩
theorem fy_Ear_from : fx_Y y_Ear_from b_Ear_from 1 (some FieldType.int) 0 := ⟨kw_270, kw_6, by decide, by decide, by decide +kernel⟩
theorem fv_Ear_from : fx_YV y_Ear_from := ⟨kw_268, kw_269⟩
theorem fy_PT_send : fx_Y y_PT_send b_PT_send 6 none 3 := ⟨kw_274, kw_1, by decide, by decide, by decide +kernel⟩
theorem fv_PT_send : fx_YV y_PT_send := ⟨kw_273, kw_s9⟩
theorem fy_Chk_ofHeader : fx_Y y_Chk_ofHeader b_Chk_ofHeader 4 (some FieldType.int) 2 := ⟨kw_279, kw_8, by decide, by decide, by decide +kernel⟩
theorem fs_Chk_ofHeader : Cond.static y_Chk_ofHeader ∈ gA := kw_278
theorem fy_Row_putAll : fx_Y y_Row_putAll b_Row_putAll 3 none 1 := ⟨kw_285, kw_2, by decide, by decide, by decide +kernel⟩
theorem fv_Row_putAll : fx_YV y_Row_putAll := ⟨kw_283, kw_284⟩
theorem fy_Chk_ofData : fx_Y y_Chk_ofData b_Chk_ofData 3 (some FieldType.int) 1 := ⟨kw_289, kw_8, by decide, by decide, by decide +kernel⟩
theorem fs_Chk_ofData : Cond.static y_Chk_ofData ∈ gA := kw_288
theorem fy_Ear_data : fx_Y y_Ear_data b_Ear_data 1 (some (FieldType.object "PassedToken$Row")) 0 := ⟨kw_296, kw_6, by decide, by decide, by decide +kernel⟩
theorem fv_Ear_data : fx_YV y_Ear_data := ⟨kw_294, kw_295⟩
theorem fy_Desk_answerTo : fx_Y y_Desk_answerTo b_Desk_answerTo 2 (some (FieldType.object "PassedToken$Row")) 1 := ⟨kw_300, kw_3, by decide, by decide, by decide +kernel⟩
theorem fv_Desk_answerTo : fx_YV y_Desk_answerTo := ⟨kw_298, kw_299⟩
theorem fy_Desk_isForDesk : fx_Y y_Desk_isForDesk b_Desk_isForDesk 1 (some FieldType.boolean) 1 := ⟨kw_304, kw_3, by decide, by decide, by decide +kernel⟩
theorem fs_Desk_isForDesk : Cond.static y_Desk_isForDesk ∈ gA := kw_303
theorem fy_Desk_begin : fx_Y y_Desk_begin b_Desk_begin 3 none 2 := ⟨kw_310, kw_3, by decide, by decide, by decide +kernel⟩
theorem fv_Desk_begin : fx_YV y_Desk_begin := ⟨kw_309, kw_s10⟩
theorem fy_Desk_takesPlace : fx_Y y_Desk_takesPlace b_Desk_takesPlace 1 (some FieldType.boolean) 0 := ⟨kw_315, kw_3, by decide, by decide, by decide +kernel⟩
theorem fv_Desk_takesPlace : fx_YV y_Desk_takesPlace := ⟨kw_314, kw_s11⟩
theorem fy_Desk_follows : fx_Y y_Desk_follows b_Desk_follows 2 (some FieldType.boolean) 1 := ⟨kw_319, kw_3, by decide, by decide, by decide +kernel⟩
theorem fv_Desk_follows : fx_YV y_Desk_follows := ⟨kw_318, kw_s12⟩
theorem fy_Desk_nextInt : fx_Y y_Desk_nextInt b_Desk_nextInt 3 (some FieldType.int) 0 := ⟨kw_323, kw_3, by decide, by decide, by decide +kernel⟩
theorem fv_Desk_nextInt : fx_YV y_Desk_nextInt := ⟨kw_322, kw_s13⟩
theorem fy_Desk_nextByte : fx_Y y_Desk_nextByte b_Desk_nextByte 2 (some FieldType.int) 0 := ⟨kw_327, kw_3, by decide, by decide, by decide +kernel⟩
theorem fv_Desk_nextByte : fx_YV y_Desk_nextByte := ⟨kw_326, kw_s14⟩
theorem fy_Desk_takesWritten : fx_Y y_Desk_takesWritten b_Desk_takesWritten 1 (some FieldType.boolean) 0 := ⟨kw_331, kw_3, by decide, by decide, by decide +kernel⟩
theorem fv_Desk_takesWritten : fx_YV y_Desk_takesWritten := ⟨kw_330, kw_s15⟩
theorem fy_Desk_answerWellFormed : fx_Y y_Desk_answerWellFormed b_Desk_answerWellFormed 2 none 0 := ⟨kw_335, kw_3, by decide, by decide, by decide +kernel⟩
theorem fv_Desk_answerWellFormed : fx_YV y_Desk_answerWellFormed := ⟨kw_334, kw_s16⟩
theorem fy_Desk_thingOf : fx_Y y_Desk_thingOf b_Desk_thingOf 3 (some (FieldType.object "PassedToken$Thing")) 1 := ⟨kw_339, kw_3, by decide, by decide, by decide +kernel⟩
theorem fv_Desk_thingOf : fx_YV y_Desk_thingOf := ⟨kw_338, kw_s17⟩
theorem fy_Thing_reference : fx_Y y_Thing_reference b_Thing_reference 1 (some FieldType.int) 0 := ⟨kw_343, kw_4, by decide, by decide, by decide +kernel⟩
theorem fv_Thing_reference : fx_YV y_Thing_reference := ⟨kw_341, kw_342⟩
theorem fy_Desk_fault : fx_Y y_Desk_fault b_Desk_fault 1 (some FieldType.int) 0 := ⟨kw_347, kw_3, by decide, by decide, by decide +kernel⟩
theorem fv_Desk_fault : fx_YV y_Desk_fault := ⟨kw_346, kw_s18⟩
theorem fy_Desk_faultOfWrite : fx_Y y_Desk_faultOfWrite b_Desk_faultOfWrite 1 (some FieldType.int) 0 := ⟨kw_351, kw_3, by decide, by decide, by decide +kernel⟩
theorem fv_Desk_faultOfWrite : fx_YV y_Desk_faultOfWrite := ⟨kw_350, kw_s19⟩
theorem fy_Thing_isBinary : fx_Y y_Thing_isBinary b_Thing_isBinary 1 (some FieldType.boolean) 0 := ⟨kw_355, kw_4, by decide, by decide, by decide +kernel⟩
theorem fv_Thing_isBinary : fx_YV y_Thing_isBinary := ⟨kw_353, kw_354⟩
theorem fy_Thing_takes : fx_Y y_Thing_takes b_Thing_takes 2 (some FieldType.boolean) 1 := ⟨kw_359, kw_4, by decide, by decide, by decide +kernel⟩
theorem fv_Thing_takes : fx_YV y_Thing_takes := ⟨kw_357, kw_358⟩
theorem fy_Desk_write : fx_Y y_Desk_write b_Desk_write 1 none 0 := ⟨kw_363, kw_3, by decide, by decide, by decide +kernel⟩
theorem fv_Desk_write : fx_YV y_Desk_write := ⟨kw_362, kw_s20⟩
theorem fy_Thing_takeAway : fx_Y y_Thing_takeAway b_Thing_takeAway 2 (some FieldType.boolean) 1 := ⟨kw_367, kw_4, by decide, by decide, by decide +kernel⟩
theorem fv_Thing_takeAway : fx_YV y_Thing_takeAway := ⟨kw_365, kw_366⟩
theorem fy_Thing_give : fx_Y y_Thing_give b_Thing_give 3 (some FieldType.boolean) 2 := ⟨kw_371, kw_4, by decide, by decide, by decide +kernel⟩
theorem fv_Thing_give : fx_YV y_Thing_give := ⟨kw_369, kw_370⟩
theorem fy_Desk_tellPlace : fx_Y y_Desk_tellPlace b_Desk_tellPlace 1 none 0 := ⟨kw_376, kw_3, by decide, by decide, by decide +kernel⟩
theorem fv_Desk_tellPlace : fx_YV y_Desk_tellPlace := ⟨kw_375, kw_s21⟩
theorem fy_Row_putInt : fx_Y y_Row_putInt b_Row_putInt 2 none 1 := ⟨kw_380, kw_2, by decide, by decide, by decide +kernel⟩
theorem fv_Row_putInt : fx_YV y_Row_putInt := ⟨kw_378, kw_379⟩
theorem fy_Desk_tellProperty : fx_Y y_Desk_tellProperty b_Desk_tellProperty 1 none 0 := ⟨kw_384, kw_3, by decide, by decide, by decide +kernel⟩
theorem fv_Desk_tellProperty : fx_YV y_Desk_tellProperty := ⟨kw_383, kw_s22⟩
theorem fy_Thing_isGiven : fx_Y y_Thing_isGiven b_Thing_isGiven 2 (some FieldType.boolean) 1 := ⟨kw_388, kw_4, by decide, by decide, by decide +kernel⟩
theorem fv_Thing_isGiven : fx_YV y_Thing_isGiven := ⟨kw_386, kw_387⟩
theorem fy_Desk_valueRead : fx_Y y_Desk_valueRead b_Desk_valueRead 1 (some FieldType.int) 0 := ⟨kw_392, kw_3, by decide, by decide, by decide +kernel⟩
theorem fv_Desk_valueRead : fx_YV y_Desk_valueRead := ⟨kw_391, kw_s23⟩
theorem fy_Thing_shown : fx_Y y_Thing_shown b_Thing_shown 2 (some FieldType.int) 0 := ⟨kw_396, kw_4, by decide, by decide, by decide +kernel⟩
theorem fv_Thing_shown : fx_YV y_Thing_shown := ⟨kw_394, kw_395⟩
theorem fy_Thing_valueOf : fx_Y y_Thing_valueOf b_Thing_valueOf 2 (some FieldType.int) 1 := ⟨kw_400, kw_4, by decide, by decide, by decide +kernel⟩
theorem fv_Thing_valueOf : fx_YV y_Thing_valueOf := ⟨kw_398, kw_399⟩
theorem fy_PT_sendAnswer : fx_Y y_PT_sendAnswer b_PT_sendAnswer 2 none 1 := ⟨kw_404, kw_1, by decide, by decide, by decide +kernel⟩
theorem fv_PT_sendAnswer : fx_YV y_PT_sendAnswer := ⟨kw_403, kw_s24⟩
theorem fy_PT_useLine : fx_Y y_PT_useLine b_PT_useLine 1 (some FieldType.boolean) 0 := ⟨kw_408, kw_1, by decide, by decide, by decide +kernel⟩
theorem fv_PT_useLine : fx_YV y_PT_useLine := ⟨kw_407, kw_s25⟩
theorem fy_PT_waitLine : fx_Y y_PT_waitLine b_PT_waitLine 2 (some FieldType.boolean) 1 := ⟨kw_412, kw_1, by decide, by decide, by decide +kernel⟩
theorem fv_PT_waitLine : fx_YV y_PT_waitLine := ⟨kw_411, kw_s26⟩
theorem fy_PT_endsWaiting : fx_Y y_PT_endsWaiting b_PT_endsWaiting 1 (some FieldType.boolean) 0 := ⟨kw_416, kw_1, by decide, by decide, by decide +kernel⟩
theorem fv_PT_endsWaiting : fx_YV y_PT_endsWaiting := ⟨kw_415, kw_s27⟩
theorem fy_PT_doneLine : fx_Y y_PT_doneLine b_PT_doneLine 1 (some FieldType.boolean) 0 := ⟨kw_420, kw_1, by decide, by decide, by decide +kernel⟩
theorem fv_PT_doneLine : fx_YV y_PT_doneLine := ⟨kw_419, kw_s28⟩
theorem fy_PT_behind : fx_Y y_PT_behind b_PT_behind 2 (some FieldType.int) 1 := ⟨kw_424, kw_1, by decide, by decide, by decide +kernel⟩
theorem fv_PT_behind : fx_YV y_PT_behind := ⟨kw_423, kw_s29⟩
theorem fy_PT_poll : fx_Y y_PT_poll b_PT_poll 2 none 1 := ⟨kw_428, kw_1, by decide, by decide, by decide +kernel⟩
theorem fv_PT_poll : fx_YV y_PT_poll := ⟨kw_427, kw_s30⟩
theorem fy_PT_pass : fx_Y y_PT_pass b_PT_pass 2 none 1 := ⟨kw_432, kw_1, by decide, by decide, by decide +kernel⟩
theorem fv_PT_pass : fx_YV y_PT_pass := ⟨kw_431, kw_s31⟩
theorem fy_PT_passingLine : fx_Y y_PT_passingLine b_PT_passingLine 1 (some FieldType.boolean) 0 := ⟨kw_436, kw_1, by decide, by decide, by decide +kernel⟩
theorem fv_PT_passingLine : fx_YV y_PT_passingLine := ⟨kw_435, kw_s32⟩
theorem fy_PT_lostLine : fx_Y y_PT_lostLine b_PT_lostLine 1 (some FieldType.boolean) 0 := ⟨kw_440, kw_1, by decide, by decide, by decide +kernel⟩
theorem fv_PT_lostLine : fx_YV y_PT_lostLine := ⟨kw_439, kw_s33⟩
theorem fy_PT_answeredLine : fx_Y y_PT_answeredLine b_PT_answeredLine 1 (some FieldType.boolean) 0 := ⟨kw_444, kw_1, by decide, by decide, by decide +kernel⟩
theorem fv_PT_answeredLine : fx_YV y_PT_answeredLine := ⟨kw_443, kw_s34⟩
theorem fy_PT_isOtherStation : fx_Y y_PT_isOtherStation b_PT_isOtherStation 2 (some FieldType.boolean) 1 := ⟨kw_448, kw_1, by decide, by decide, by decide +kernel⟩
theorem fv_PT_isOtherStation : fx_YV y_PT_isOtherStation := ⟨kw_447, kw_s35⟩
theorem fy_PT_unansweredLine : fx_Y y_PT_unansweredLine b_PT_unansweredLine 2 (some FieldType.boolean) 1 := ⟨kw_452, kw_1, by decide, by decide, by decide +kernel⟩
theorem fv_PT_unansweredLine : fx_YV y_PT_unansweredLine := ⟨kw_451, kw_s36⟩
theorem fy_PT_quiet : fx_Y y_PT_quiet b_PT_quiet 3 (some FieldType.int) 1 := ⟨kw_456, kw_1, by decide, by decide, by decide +kernel⟩
theorem fv_PT_quiet : fx_YV y_PT_quiet := ⟨kw_454, kw_455⟩
theorem fy_Ear_rest : fx_Y y_Ear_rest b_Ear_rest 2 (some FieldType.int) 1 := ⟨kw_460, kw_6, by decide, by decide, by decide +kernel⟩
theorem fv_Ear_rest : fx_YV y_Ear_rest := ⟨kw_458, kw_459⟩
theorem fy_PT_sent : fx_Y y_PT_sent b_PT_sent 2 (some FieldType.int) 1 := ⟨kw_464, kw_1, by decide, by decide, by decide +kernel⟩
theorem fv_PT_sent : fx_YV y_PT_sent := ⟨kw_462, kw_463⟩
theorem fy_PT_ask : fx_Y y_PT_ask b_PT_ask 6 (some FieldType.boolean) 5 := ⟨kw_469, kw_1, by decide, by decide, by decide +kernel⟩
theorem fv_PT_ask : fx_YV y_PT_ask := ⟨kw_467, kw_468⟩
theorem fy_PT_replied : fx_Y y_PT_replied b_PT_replied 1 (some FieldType.int) 0 := ⟨kw_476, kw_1, by decide, by decide, by decide +kernel⟩
theorem fv_PT_replied : fx_YV y_PT_replied := ⟨kw_474, kw_475⟩
theorem fy_PT_reply : fx_Y y_PT_reply b_PT_reply 2 (some FieldType.int) 1 := ⟨kw_480, kw_1, by decide, by decide, by decide +kernel⟩
theorem fv_PT_reply : fx_YV y_PT_reply := ⟨kw_478, kw_479⟩
theorem fy_PT_state : fx_Y y_PT_state b_PT_state 1 (some FieldType.int) 0 := ⟨kw_484, kw_1, by decide, by decide, by decide +kernel⟩
theorem fv_PT_state : fx_YV y_PT_state := ⟨kw_482, kw_483⟩
theorem fy_PT_silence : fx_Y y_PT_silence b_PT_silence 1 (some FieldType.int) 0 := ⟨kw_488, kw_1, by decide, by decide, by decide +kernel⟩
theorem fv_PT_silence : fx_YV y_PT_silence := ⟨kw_486, kw_487⟩
theorem fy_PT_set : fx_Y y_PT_set b_PT_set 6 (some FieldType.boolean) 4 := ⟨kw_492, kw_1, by decide, by decide, by decide +kernel⟩
theorem fv_PT_set : fx_YV y_PT_set := ⟨kw_490, kw_491⟩
theorem fy_Desk_thing : fx_Y y_Desk_thing b_Desk_thing 2 (some (FieldType.object "PassedToken$Thing")) 1 := ⟨kw_496, kw_3, by decide, by decide, by decide +kernel⟩
theorem fv_Desk_thing : fx_YV y_Desk_thing := ⟨kw_494, kw_495⟩
theorem fy_PT_present : fx_Y y_PT_present b_PT_present 3 (some FieldType.int) 1 := ⟨kw_502, kw_1, by decide, by decide, by decide +kernel⟩
theorem fv_PT_present : fx_YV y_PT_present := ⟨kw_500, kw_501⟩
theorem fy_Law_cell : fx_Y y_Law_cell b_Law_cell 2 (some FieldType.int) 2 := ⟨kw_506, kw_0, by decide, by decide, by decide +kernel⟩
theorem fs_Law_cell : Cond.static y_Law_cell ∈ gA := kw_505
theorem fy_Mod_init : fx_Y y_Mod_init b_Mod_init 3 none 2 := ⟨kw_511, kw_7, by decide, by decide, by decide +kernel⟩
theorem fy_Mod_hear : fx_Y y_Mod_hear b_Mod_hear 2 (some FieldType.int) 1 := ⟨kw_604, kw_7, by decide, by decide, by decide +kernel⟩
theorem fv_Mod_hear : fx_YV y_Mod_hear := ⟨kw_602, kw_603⟩
theorem fy_Mod_listen : fx_Y y_Mod_listen b_Mod_listen 2 none 1 := ⟨kw_608, kw_7, by decide, by decide, by decide +kernel⟩
theorem fv_Mod_listen : fx_YV y_Mod_listen := ⟨kw_607, kw_s37⟩
theorem fy_Mod_endHeader : fx_Y y_Mod_endHeader b_Mod_endHeader 3 none 0 := ⟨kw_612, kw_7, by decide, by decide, by decide +kernel⟩
theorem fv_Mod_endHeader : fx_YV y_Mod_endHeader := ⟨kw_611, kw_s38⟩
theorem fy_Mod_headerStep : fx_Y y_Mod_headerStep b_Mod_headerStep 4 (some FieldType.int) 2 := ⟨kw_615, kw_7, by decide, by decide, by decide +kernel⟩
theorem fs_Mod_headerStep : Cond.static y_Mod_headerStep ∈ gA := kw_614
theorem fy_Mod_isForMe : fx_Y y_Mod_isForMe b_Mod_isForMe 1 (some FieldType.boolean) 0 := ⟨kw_619, kw_7, by decide, by decide, by decide +kernel⟩
theorem fv_Mod_isForMe : fx_YV y_Mod_isForMe := ⟨kw_618, kw_s39⟩
theorem fy_Mod_endData : fx_Y y_Mod_endData b_Mod_endData 3 none 0 := ⟨kw_623, kw_7, by decide, by decide, by decide +kernel⟩
theorem fv_Mod_endData : fx_YV y_Mod_endData := ⟨kw_622, kw_s40⟩
theorem fy_Mod_dataStep : fx_Y y_Mod_dataStep b_Mod_dataStep 4 (some FieldType.int) 2 := ⟨kw_627, kw_7, by decide, by decide, by decide +kernel⟩
theorem fs_Mod_dataStep : Cond.static y_Mod_dataStep ∈ gA := kw_626
theorem fy_Mod_settle : fx_Y y_Mod_settle b_Mod_settle 2 none 0 := ⟨kw_632, kw_7, by decide, by decide, by decide +kernel⟩
theorem fv_Mod_settle : fx_YV y_Mod_settle := ⟨kw_631, kw_s41⟩
theorem fy_Mod_step : fx_Y y_Mod_step b_Mod_step 1 (some FieldType.boolean) 0 := ⟨kw_636, kw_7, by decide, by decide, by decide +kernel⟩
theorem fv_Mod_step : fx_YV y_Mod_step := ⟨kw_635, kw_s42⟩
theorem fy_Mod_idle : fx_Y y_Mod_idle b_Mod_idle 3 (some FieldType.boolean) 0 := ⟨kw_640, kw_7, by decide, by decide, by decide +kernel⟩
theorem fv_Mod_idle : fx_YV y_Mod_idle := ⟨kw_639, kw_s43⟩
theorem fy_Mod_send : fx_Y y_Mod_send b_Mod_send 7 none 3 := ⟨kw_644, kw_7, by decide, by decide, by decide +kernel⟩
theorem fv_Mod_send : fx_YV y_Mod_send := ⟨kw_643, kw_s44⟩
theorem fy_Mod_put : fx_Y y_Mod_put b_Mod_put 2 none 1 := ⟨kw_648, kw_7, by decide, by decide, by decide +kernel⟩
theorem fv_Mod_put : fx_YV y_Mod_put := ⟨kw_647, kw_s45⟩
theorem fy_Mod_makeAnswer : fx_Y y_Mod_makeAnswer b_Mod_makeAnswer 9 none 0 := ⟨kw_652, kw_7, by decide, by decide, by decide +kernel⟩
theorem fv_Mod_makeAnswer : fx_YV y_Mod_makeAnswer := ⟨kw_651, kw_s46⟩
theorem fy_Mod_reject : fx_Y y_Mod_reject b_Mod_reject 3 none 2 := ⟨kw_656, kw_7, by decide, by decide, by decide +kernel⟩
theorem fv_Mod_reject : fx_YV y_Mod_reject := ⟨kw_655, kw_s47⟩
theorem fy_Mod_add : fx_Y y_Mod_add b_Mod_add 2 none 1 := ⟨kw_660, kw_7, by decide, by decide, by decide +kernel⟩
theorem fv_Mod_add : fx_YV y_Mod_add := ⟨kw_659, kw_s48⟩
theorem fy_Mod_expect : fx_Y y_Mod_expect b_Mod_expect 3 none 1 := ⟨kw_664, kw_7, by decide, by decide, by decide +kernel⟩
theorem fv_Mod_expect : fx_YV y_Mod_expect := ⟨kw_663, kw_s49⟩
theorem fy_Mod_take : fx_Y y_Mod_take b_Mod_take 1 (some FieldType.int) 0 := ⟨kw_668, kw_7, by decide, by decide, by decide +kernel⟩
theorem fv_Mod_take : fx_YV y_Mod_take := ⟨kw_667, kw_s50⟩
theorem fy_Mod_takeInt : fx_Y y_Mod_takeInt b_Mod_takeInt 3 (some FieldType.int) 0 := ⟨kw_672, kw_7, by decide, by decide, by decide +kernel⟩
theorem fv_Mod_takeInt : fx_YV y_Mod_takeInt := ⟨kw_671, kw_s51⟩
theorem fy_Mod_isNext : fx_Y y_Mod_isNext b_Mod_isNext 2 (some FieldType.boolean) 1 := ⟨kw_676, kw_7, by decide, by decide, by decide +kernel⟩
theorem fv_Mod_isNext : fx_YV y_Mod_isNext := ⟨kw_675, kw_s52⟩
theorem fy_Mod_answerTo : fx_Y y_Mod_answerTo b_Mod_answerTo 11 none 7 := ⟨kw_680, kw_7, by decide, by decide, by decide +kernel⟩
theorem fv_Mod_answerTo : fx_YV y_Mod_answerTo := ⟨kw_679, kw_s53⟩
theorem fy_Mod_thingOf : fx_Y y_Mod_thingOf b_Mod_thingOf 3 (some FieldType.int) 1 := ⟨kw_683, kw_7, by decide, by decide, by decide +kernel⟩
theorem fs_Mod_thingOf : Cond.static y_Mod_thingOf ∈ gA := kw_682
theorem fy_Mod_wrong : fx_Y y_Mod_wrong b_Mod_wrong 6 (some FieldType.int) 5 := ⟨kw_687, kw_7, by decide, by decide, by decide +kernel⟩
theorem fs_Mod_wrong : Cond.static y_Mod_wrong ∈ gA := kw_686
theorem fy_Mod_tell : fx_Y y_Mod_tell b_Mod_tell 6 none 5 := ⟨kw_691, kw_7, by decide, by decide, by decide +kernel⟩
theorem fv_Mod_tell : fx_YV y_Mod_tell := ⟨kw_690, kw_s54⟩
theorem fy_Mod_addInt : fx_Y y_Mod_addInt b_Mod_addInt 3 none 1 := ⟨kw_695, kw_7, by decide, by decide, by decide +kernel⟩
theorem fv_Mod_addInt : fx_YV y_Mod_addInt := ⟨kw_694, kw_s55⟩
theorem fy_Mod_presentOf : fx_Y y_Mod_presentOf b_Mod_presentOf 4 (some FieldType.int) 1 := ⟨kw_699, kw_7, by decide, by decide, by decide +kernel⟩
theorem fv_Mod_presentOf : fx_YV y_Mod_presentOf := ⟨kw_698, kw_s56⟩
theorem fy_Mod_addValue : fx_Y y_Mod_addValue b_Mod_addValue 3 none 2 := ⟨kw_703, kw_7, by decide, by decide, by decide +kernel⟩
theorem fv_Mod_addValue : fx_YV y_Mod_addValue := ⟨kw_702, kw_s57⟩
theorem fy_Mod_use : fx_Y y_Mod_use b_Mod_use 2 (some FieldType.boolean) 0 := ⟨kw_707, kw_7, by decide, by decide, by decide +kernel⟩
theorem fv_Mod_use : fx_YV y_Mod_use := ⟨kw_706, kw_s58⟩
theorem fy_Mod_awaits : fx_Y y_Mod_awaits b_Mod_awaits 3 (some FieldType.boolean) 0 := ⟨kw_711, kw_7, by decide, by decide, by decide +kernel⟩
theorem fv_Mod_awaits : fx_YV y_Mod_awaits := ⟨kw_710, kw_s59⟩
theorem fy_Mod_done : fx_Y y_Mod_done b_Mod_done 1 (some FieldType.boolean) 0 := ⟨kw_715, kw_7, by decide, by decide, by decide +kernel⟩
theorem fv_Mod_done : fx_YV y_Mod_done := ⟨kw_714, kw_s60⟩
theorem fy_Mod_behind : fx_Y y_Mod_behind b_Mod_behind 2 (some FieldType.int) 1 := ⟨kw_719, kw_7, by decide, by decide, by decide +kernel⟩
theorem fv_Mod_behind : fx_YV y_Mod_behind := ⟨kw_718, kw_s61⟩
theorem fy_Mod_poll : fx_Y y_Mod_poll b_Mod_poll 2 none 1 := ⟨kw_723, kw_7, by decide, by decide, by decide +kernel⟩
theorem fv_Mod_poll : fx_YV y_Mod_poll := ⟨kw_722, kw_s62⟩
theorem fy_Mod_pass : fx_Y y_Mod_pass b_Mod_pass 1 none 0 := ⟨kw_727, kw_7, by decide, by decide, by decide +kernel⟩
theorem fv_Mod_pass : fx_YV y_Mod_pass := ⟨kw_726, kw_s63⟩
theorem fy_Mod_passing : fx_Y y_Mod_passing b_Mod_passing 1 (some FieldType.boolean) 0 := ⟨kw_731, kw_7, by decide, by decide, by decide +kernel⟩
theorem fv_Mod_passing : fx_YV y_Mod_passing := ⟨kw_730, kw_s64⟩
theorem fy_Mod_lost : fx_Y y_Mod_lost b_Mod_lost 1 (some FieldType.boolean) 0 := ⟨kw_735, kw_7, by decide, by decide, by decide +kernel⟩
theorem fv_Mod_lost : fx_YV y_Mod_lost := ⟨kw_734, kw_s65⟩
theorem fy_Mod_polling : fx_Y y_Mod_polling b_Mod_polling 3 (some FieldType.boolean) 0 := ⟨kw_739, kw_7, by decide, by decide, by decide +kernel⟩
theorem fv_Mod_polling : fx_YV y_Mod_polling := ⟨kw_738, kw_s66⟩
theorem fy_Mod_quiet : fx_Y y_Mod_quiet b_Mod_quiet 3 (some FieldType.int) 1 := ⟨kw_743, kw_7, by decide, by decide, by decide +kernel⟩
theorem fv_Mod_quiet : fx_YV y_Mod_quiet := ⟨kw_741, kw_742⟩
theorem fy_Mod_sent : fx_Y y_Mod_sent b_Mod_sent 2 (some FieldType.int) 1 := ⟨kw_747, kw_7, by decide, by decide, by decide +kernel⟩
theorem fv_Mod_sent : fx_YV y_Mod_sent := ⟨kw_745, kw_746⟩
theorem fy_Mod_ask : fx_Y y_Mod_ask b_Mod_ask 8 (some FieldType.boolean) 5 := ⟨kw_751, kw_7, by decide, by decide, by decide +kernel⟩
theorem fv_Mod_ask : fx_YV y_Mod_ask := ⟨kw_749, kw_750⟩
theorem fy_Mod_replied : fx_Y y_Mod_replied b_Mod_replied 1 (some FieldType.int) 0 := ⟨kw_755, kw_7, by decide, by decide, by decide +kernel⟩
theorem fv_Mod_replied : fx_YV y_Mod_replied := ⟨kw_753, kw_754⟩
theorem fy_Mod_reply : fx_Y y_Mod_reply b_Mod_reply 2 (some FieldType.int) 1 := ⟨kw_759, kw_7, by decide, by decide, by decide +kernel⟩
theorem fv_Mod_reply : fx_YV y_Mod_reply := ⟨kw_757, kw_758⟩
theorem fy_Mod_state : fx_Y y_Mod_state b_Mod_state 1 (some FieldType.int) 0 := ⟨kw_763, kw_7, by decide, by decide, by decide +kernel⟩
theorem fv_Mod_state : fx_YV y_Mod_state := ⟨kw_761, kw_762⟩
theorem fy_Mod_silence : fx_Y y_Mod_silence b_Mod_silence 1 (some FieldType.int) 0 := ⟨kw_767, kw_7, by decide, by decide, by decide +kernel⟩
theorem fv_Mod_silence : fx_YV y_Mod_silence := ⟨kw_765, kw_766⟩
theorem fy_Mod_set : fx_Y y_Mod_set b_Mod_set 5 (some FieldType.boolean) 4 := ⟨kw_771, kw_7, by decide, by decide, by decide +kernel⟩
theorem fv_Mod_set : fx_YV y_Mod_set := ⟨kw_769, kw_770⟩
theorem fy_Mod_present : fx_Y y_Mod_present b_Mod_present 2 (some FieldType.int) 1 := ⟨kw_775, kw_7, by decide, by decide, by decide +kernel⟩
theorem fv_Mod_present : fx_YV y_Mod_present := ⟨kw_773, kw_774⟩
end
section
def rfT (j : Nat) : Int32 := match j with
  | 0 => 8388608
  | 1 => 8388609
  | 2 => 16777216
  | _ => 16777217
def bnT (j : Nat) : Int32 := match j with
  | 0 => 0
  | 1 => 0
  | _ => 1
def tf (ad : Nat → Nat) : Nat → Option Nat := fun n => if n < 4 then some (ad (18 + 3 * n)) else none
def aq (ad : Nat → Nat) (a : Int32) : Nat := if a = 1 then ad 13 else ad 39
theorem tv_nar (ad : Nat → Nat) (a : Int32) : narrow (.object "PassedToken$Thing") (tv ad a) = tv ad a := by
  unfold tv
  by_cases h : a = -1
  · rw [if_pos h]; rfl
  · rw [if_neg h]; rfl
theorem tv_fits (ad : Nat → Nat) (a : Int32) : fits (.object "PassedToken$Thing") (tv ad a) = true := by
  unfold tv
  by_cases h : a = -1
  · rw [if_pos h]; rfl
  · rw [if_neg h]; rfl
abbrev tyC (cI cZ cT : ClassId) : List (ClassId × FieldType) := [(cI, .int), (cZ, .boolean), (cT, .object "PassedToken$Thing")]
def wC (ad : Nat → Nat) (cI cZ cT : ClassId) (v u : ST) : va_W := [(ad 0, .inr (4, [.int (u.1 0), .int (u.1 1), .ref (ad 1), .ref (ad 3), .ref (ad 5), .ref (ad 7), .ref (ad 9), .ref (ad 2), .int (u.1 2), .int (u.1 3), .int (u.1 4), .int (u.1 5), .int (u.1 6), .int (u.1 7), .int (u.1 8), .int (u.1 9), .int (u.1 10), .int (u.1 11)])),
  (ad 1, .inr (2, [.int (u.1 12), .ref (ad 11), .ref (ad 13), .int (u.1 13), .int (u.1 14), .int (u.1 15)])),
  (ad 2, .inr (3, [.ref (ad 17), .ref (ad 15), .ref (aq ad (u.1 32)), .int (u.1 16), .int (u.1 17), .int (u.1 18), .int (u.1 19), tv ad (u.1 33), .int (u.1 20), .int (u.1 21), .int (u.1 22), .int (u.1 23), .int (u.1 24)])),
  (ad 3, .inr (0, [.ref (ad 4), .int (u.1 25)])),
  (ad 4, .inl (cI, 128, .inl (u.2 0))),
  (ad 5, .inr (0, [.ref (ad 6), .int (u.1 26)])),
  (ad 6, .inl (cI, 0, .inl (u.2 1))),
  (ad 7, .inr (0, [.ref (ad 8), .int (u.1 27)])),
  (ad 8, .inl (cI, 13, .inl (u.2 2))),
  (ad 9, .inr (0, [.ref (ad 10), .int (u.1 28)])),
  (ad 10, .inl (cI, 40, .inl (u.2 3))),
  (ad 11, .inr (0, [.ref (ad 12), .int (u.1 29)])),
  (ad 12, .inl (cI, 5, .inl (u.2 4))),
  (ad 13, .inr (0, [.ref (ad 14), .int (u.1 30)])),
  (ad 14, .inl (cI, 40, .inl (u.2 5))),
  (ad 15, .inr (0, [.ref (ad 16), .int (u.1 31)])),
  (ad 16, .inl (cI, 32, .inl (u.2 6))),
  (ad 17, .inl (cT, 4, .inr (.inr (.inr (.inr (tf ad)))))),
  (ad 18, .inr (1, [.int (rfT 0), .int (bnT 0), .ref (ad 19), .ref (ad 20)])),
  (ad 19, .inl (cI, 17, .inl (u.2 7))),
  (ad 20, .inl (cZ, 17, .inl (u.2 8))),
  (ad 21, .inr (1, [.int (rfT 1), .int (bnT 1), .ref (ad 22), .ref (ad 23)])),
  (ad 22, .inl (cI, 17, .inl (u.2 9))),
  (ad 23, .inl (cZ, 17, .inl (u.2 10))),
  (ad 24, .inr (1, [.int (rfT 2), .int (bnT 2), .ref (ad 25), .ref (ad 26)])),
  (ad 25, .inl (cI, 17, .inl (u.2 11))),
  (ad 26, .inl (cZ, 17, .inl (u.2 12))),
  (ad 27, .inr (1, [.int (rfT 3), .int (bnT 3), .ref (ad 28), .ref (ad 29)])),
  (ad 28, .inl (cI, 17, .inl (u.2 13))),
  (ad 29, .inl (cZ, 17, .inl (u.2 14))),
  (ad 30, .inr (5, [.int (v.1 0), .int (v.1 1), .int (v.1 2), .int (v.1 3), .int (v.1 4), .int (v.1 5), .int (v.1 6), .int (v.1 7), .int (v.1 8), .int (v.1 9), .int (v.1 10), .ref (ad 31), .ref (ad 32), .int (v.1 13), .int (v.1 14), .int (v.1 15), .int (v.1 16), .ref (ad 33), .int (v.1 18), .ref (ad 34), .int (v.1 20), .ref (ad 35), .int (v.1 22), .int (v.1 23), .ref (ad 36), .ref (ad 37), .ref (ad 38), .int (v.1 27), .int (v.1 28)])),
  (ad 31, .inl (cI, 6, .inl (v.2 0))),
  (ad 32, .inl (cI, 42, .inl (v.2 1))),
  (ad 33, .inl (cI, 1024, .inl (v.2 2))),
  (ad 34, .inl (cI, 48, .inl (v.2 3))),
  (ad 35, .inl (cI, 40, .inl (v.2 4))),
  (ad 36, .inl (cI, 13, .inl (v.2 5))),
  (ad 37, .inl (cI, 68, .inl (v.2 6))),
  (ad 38, .inl (cZ, 68, .inl (v.2 7)))]
def wM (ad : Nat → Nat) (cI cZ cT : ClassId) (u v : ST) : va_W := wC ad cI cZ cT v u
end
section
section
variable {p : Program} {l : Launch} {e : Env} {R : Room} {s : State} {m : MethodId} {args : Array Value} {below : List Frame} {meth : Method} {c : Code} {H : Heap} {locs : List Loc} {cells slots : Nat} {Q : State → Prop} {cc : ByteArray} {pc nL : Nat} {ls : Array Slot} {rest : List Value} {D : va_G} {A : Nat → Prop} {H0 : Heap} {β : Type} {z : β} {ad : Nat → Nat} {cI cZ cT : ClassId} {v u : ST} {own : String}
theorem gf_C_0_own (hC : fx_C p s m args meth c cc "PassedToken" nL) (hK : va_K D vC (tyC cI cZ cT) s) (hw : fw D A H0 (wC ad cI cZ cT v u) H locs) (hdg : decode cc pc = .ok (.getfield 72, 3)) (kk : W p l e R s m args below meth c H locs cells slots Q (F0 m (pc + 3) ls (.int (u.1 0) :: rest))) : W p l e R s m args below meth c H locs cells slots Q (F0 m pc ls (.ref (ad 0) :: rest)) := va_get (D := D) (ci := 4) (v := .int (u.1 0)) (C := "PassedToken") (T := F_PT) (N := 18) hC.1 hC.2.1 hC.2.2.2.2.1 in_PT hC.2.2.2.1 hK hw.1 0 rfl rfl 0 (by decide) (hC.2.2.2.2.1 _ kw_134) (fun _ h9 => h9) rfl hdg kk
theorem gf_C_0_most (hC : fx_C p s m args meth c cc "PassedToken" nL) (hK : va_K D vC (tyC cI cZ cT) s) (hw : fw D A H0 (wC ad cI cZ cT v u) H locs) (hdg : decode cc pc = .ok (.getfield 69, 3)) (kk : W p l e R s m args below meth c H locs cells slots Q (F0 m (pc + 3) ls (.int (u.1 1) :: rest))) : W p l e R s m args below meth c H locs cells slots Q (F0 m pc ls (.ref (ad 0) :: rest)) := va_get (D := D) (ci := 4) (v := .int (u.1 1)) (C := "PassedToken") (T := F_PT) (N := 18) hC.1 hC.2.1 hC.2.2.2.2.1 in_PT hC.2.2.2.1 hK hw.1 0 rfl rfl 1 (by decide) (hC.2.2.2.2.1 _ kw_135) (fun _ h9 => h9) rfl hdg kk
theorem gf_C_0_ear (hC : fx_C p s m args meth c cc "PassedToken" nL) (hK : va_K D vC (tyC cI cZ cT) s) (hw : fw D A H0 (wC ad cI cZ cT v u) H locs) (hdg : decode cc pc = .ok (.getfield 84, 3)) (kk : W p l e R s m args below meth c H locs cells slots Q (F0 m (pc + 3) ls (.ref (ad 1) :: rest))) : W p l e R s m args below meth c H locs cells slots Q (F0 m pc ls (.ref (ad 0) :: rest)) := va_get (D := D) (ci := 4) (v := .ref (ad 1)) (C := "PassedToken") (T := F_PT) (N := 18) hC.1 hC.2.1 hC.2.2.2.2.1 in_PT hC.2.2.2.1 hK hw.1 0 rfl rfl 2 (by decide) (hC.2.2.2.2.1 _ kw_136) (fun _ h9 => h9) rfl hdg kk
theorem gf_C_0_out (hC : fx_C p s m args meth c cc "PassedToken" nL) (hK : va_K D vC (tyC cI cZ cT) s) (hw : fw D A H0 (wC ad cI cZ cT v u) H locs) (hdg : decode cc pc = .ok (.getfield 14, 3)) (kk : W p l e R s m args below meth c H locs cells slots Q (F0 m (pc + 3) ls (.ref (ad 3) :: rest))) : W p l e R s m args below meth c H locs cells slots Q (F0 m pc ls (.ref (ad 0) :: rest)) := va_get (D := D) (ci := 4) (v := .ref (ad 3)) (C := "PassedToken") (T := F_PT) (N := 18) hC.1 hC.2.1 hC.2.2.2.2.1 in_PT hC.2.2.2.1 hK hw.1 0 rfl rfl 3 (by decide) (hC.2.2.2.2.1 _ kw_137) (fun _ h9 => h9) rfl hdg kk
theorem gf_C_0_noData (hC : fx_C p s m args meth c cc "PassedToken" nL) (hK : va_K D vC (tyC cI cZ cT) s) (hw : fw D A H0 (wC ad cI cZ cT v u) H locs) (hdg : decode cc pc = .ok (.getfield 18, 3)) (kk : W p l e R s m args below meth c H locs cells slots Q (F0 m (pc + 3) ls (.ref (ad 5) :: rest))) : W p l e R s m args below meth c H locs cells slots Q (F0 m pc ls (.ref (ad 0) :: rest)) := va_get (D := D) (ci := 4) (v := .ref (ad 5)) (C := "PassedToken") (T := F_PT) (N := 18) hC.1 hC.2.1 hC.2.2.2.2.1 in_PT hC.2.2.2.1 hK hw.1 0 rfl rfl 4 (by decide) (hC.2.2.2.2.1 _ kw_138) (fun _ h9 => h9) rfl hdg kk
theorem gf_C_0_request (hC : fx_C p s m args meth c cc "PassedToken" nL) (hK : va_K D vC (tyC cI cZ cT) s) (hw : fw D A H0 (wC ad cI cZ cT v u) H locs) (hdg : decode cc pc = .ok (.getfield 21, 3)) (kk : W p l e R s m args below meth c H locs cells slots Q (F0 m (pc + 3) ls (.ref (ad 7) :: rest))) : W p l e R s m args below meth c H locs cells slots Q (F0 m pc ls (.ref (ad 0) :: rest)) := va_get (D := D) (ci := 4) (v := .ref (ad 7)) (C := "PassedToken") (T := F_PT) (N := 18) hC.1 hC.2.1 hC.2.2.2.2.1 in_PT hC.2.2.2.1 hK hw.1 0 rfl rfl 5 (by decide) (hC.2.2.2.2.1 _ kw_139) (fun _ h9 => h9) rfl hdg kk
theorem gf_C_0_latestReply (hC : fx_C p s m args meth c cc "PassedToken" nL) (hK : va_K D vC (tyC cI cZ cT) s) (hw : fw D A H0 (wC ad cI cZ cT v u) H locs) (hdg : decode cc pc = .ok (.getfield 24, 3)) (kk : W p l e R s m args below meth c H locs cells slots Q (F0 m (pc + 3) ls (.ref (ad 9) :: rest))) : W p l e R s m args below meth c H locs cells slots Q (F0 m pc ls (.ref (ad 0) :: rest)) := va_get (D := D) (ci := 4) (v := .ref (ad 9)) (C := "PassedToken") (T := F_PT) (N := 18) hC.1 hC.2.1 hC.2.2.2.2.1 in_PT hC.2.2.2.1 hK hw.1 0 rfl rfl 6 (by decide) (hC.2.2.2.2.1 _ kw_140) (fun _ h9 => h9) rfl hdg kk
theorem gf_C_0_desk (hC : fx_C p s m args meth c cc "PassedToken" nL) (hK : va_K D vC (tyC cI cZ cT) s) (hw : fw D A H0 (wC ad cI cZ cT v u) H locs) (hdg : decode cc pc = .ok (.getfield 30, 3)) (kk : W p l e R s m args below meth c H locs cells slots Q (F0 m (pc + 3) ls (.ref (ad 2) :: rest))) : W p l e R s m args below meth c H locs cells slots Q (F0 m pc ls (.ref (ad 0) :: rest)) := va_get (D := D) (ci := 4) (v := .ref (ad 2)) (C := "PassedToken") (T := F_PT) (N := 18) hC.1 hC.2.1 hC.2.2.2.2.1 in_PT hC.2.2.2.1 hK hw.1 0 rfl rfl 7 (by decide) (hC.2.2.2.2.1 _ kw_141) (fun _ h9 => h9) rfl hdg kk
theorem gf_C_0_mode (hC : fx_C p s m args meth c cc "PassedToken" nL) (hK : va_K D vC (tyC cI cZ cT) s) (hw : fw D A H0 (wC ad cI cZ cT v u) H locs) (hdg : decode cc pc = .ok (.getfield 34, 3)) (kk : W p l e R s m args below meth c H locs cells slots Q (F0 m (pc + 3) ls (.int (u.1 2) :: rest))) : W p l e R s m args below meth c H locs cells slots Q (F0 m pc ls (.ref (ad 0) :: rest)) := va_get (D := D) (ci := 4) (v := .int (u.1 2)) (C := "PassedToken") (T := F_PT) (N := 18) hC.1 hC.2.1 hC.2.2.2.2.1 in_PT hC.2.2.2.1 hK hw.1 0 rfl rfl 8 (by decide) (hC.2.2.2.2.1 _ kw_142) (fun _ h9 => h9) rfl hdg kk
theorem pf_C_0_mode {K : ST → Option β} {x : Int32} (hC : fx_C p s m args meth c cc "PassedToken" nL) (hK : va_K D vC (tyC cI cZ cT) s) (hw : fw D A H0 (wC ad cI cZ cT v u) H locs) (hdg : decode cc pc = .ok (.putfield 34, 3)) (h : k_let (ss u 2 x) K = some z) (kk : ∀ (H1 : Heap) (locs1 : List Loc) (u1 : ST), K u1 = some z → fw D A H0 (wC ad cI cZ cT v u1) H1 locs1 → W p l e R s m args below meth c H1 locs1 cells slots Q (F0 m (pc + 3) ls rest)) : W p l e R s m args below meth c H locs cells slots Q (F0 m pc ls (.int x :: .ref (ad 0) :: rest)) := va_put (D := D) (ci := 4) (v := .int x) (ty := .int) (C := "PassedToken") (T := F_PT) (N := 18) hC.1 hC.2.1 hC.2.2.2.2.1 in_PT t_PT t_PT_ok n_PT hC.2.2.2.1 hK hw.1 hw.2.1 hw.2.2 0 rfl rfl 8 (by decide) (hC.2.2.2.2.1 _ kw_142) (fun _ h9 => h9) rfl (by decide +kernel) rfl rfl (Nat.le_of_ble_eq_true rfl) hdg (fun H1 locs1 hP hD hS => kk H1 locs1 _ h ⟨hP, hD, hS⟩)
theorem gf_C_0_next (hC : fx_C p s m args meth c cc "PassedToken" nL) (hK : va_K D vC (tyC cI cZ cT) s) (hw : fw D A H0 (wC ad cI cZ cT v u) H locs) (hdg : decode cc pc = .ok (.getfield 75, 3)) (kk : W p l e R s m args below meth c H locs cells slots Q (F0 m (pc + 3) ls (.int (u.1 3) :: rest))) : W p l e R s m args below meth c H locs cells slots Q (F0 m pc ls (.ref (ad 0) :: rest)) := va_get (D := D) (ci := 4) (v := .int (u.1 3)) (C := "PassedToken") (T := F_PT) (N := 18) hC.1 hC.2.1 hC.2.2.2.2.1 in_PT hC.2.2.2.1 hK hw.1 0 rfl rfl 9 (by decide) (hC.2.2.2.2.1 _ kw_143) (fun _ h9 => h9) rfl hdg kk
theorem pf_C_0_next {K : ST → Option β} {x : Int32} (hC : fx_C p s m args meth c cc "PassedToken" nL) (hK : va_K D vC (tyC cI cZ cT) s) (hw : fw D A H0 (wC ad cI cZ cT v u) H locs) (hdg : decode cc pc = .ok (.putfield 75, 3)) (h : k_let (ss u 3 x) K = some z) (kk : ∀ (H1 : Heap) (locs1 : List Loc) (u1 : ST), K u1 = some z → fw D A H0 (wC ad cI cZ cT v u1) H1 locs1 → W p l e R s m args below meth c H1 locs1 cells slots Q (F0 m (pc + 3) ls rest)) : W p l e R s m args below meth c H locs cells slots Q (F0 m pc ls (.int x :: .ref (ad 0) :: rest)) := va_put (D := D) (ci := 4) (v := .int x) (ty := .int) (C := "PassedToken") (T := F_PT) (N := 18) hC.1 hC.2.1 hC.2.2.2.2.1 in_PT t_PT t_PT_ok n_PT hC.2.2.2.1 hK hw.1 hw.2.1 hw.2.2 0 rfl rfl 9 (by decide) (hC.2.2.2.2.1 _ kw_143) (fun _ h9 => h9) rfl (by decide +kernel) rfl rfl (Nat.le_of_ble_eq_true rfl) hdg (fun H1 locs1 hP hD hS => kk H1 locs1 _ h ⟨hP, hD, hS⟩)
theorem gf_C_0_polled (hC : fx_C p s m args meth c cc "PassedToken" nL) (hK : va_K D vC (tyC cI cZ cT) s) (hw : fw D A H0 (wC ad cI cZ cT v u) H locs) (hdg : decode cc pc = .ok (.getfield 78, 3)) (kk : W p l e R s m args below meth c H locs cells slots Q (F0 m (pc + 3) ls (.int (u.1 4) :: rest))) : W p l e R s m args below meth c H locs cells slots Q (F0 m pc ls (.ref (ad 0) :: rest)) := va_get (D := D) (ci := 4) (v := .int (u.1 4)) (C := "PassedToken") (T := F_PT) (N := 18) hC.1 hC.2.1 hC.2.2.2.2.1 in_PT hC.2.2.2.1 hK hw.1 0 rfl rfl 10 (by decide) (hC.2.2.2.2.1 _ kw_144) (fun _ h9 => h9) rfl hdg kk
theorem pf_C_0_polled {K : ST → Option β} {x : Int32} (hC : fx_C p s m args meth c cc "PassedToken" nL) (hK : va_K D vC (tyC cI cZ cT) s) (hw : fw D A H0 (wC ad cI cZ cT v u) H locs) (hdg : decode cc pc = .ok (.putfield 78, 3)) (h : k_let (ss u 4 x) K = some z) (kk : ∀ (H1 : Heap) (locs1 : List Loc) (u1 : ST), K u1 = some z → fw D A H0 (wC ad cI cZ cT v u1) H1 locs1 → W p l e R s m args below meth c H1 locs1 cells slots Q (F0 m (pc + 3) ls rest)) : W p l e R s m args below meth c H locs cells slots Q (F0 m pc ls (.int x :: .ref (ad 0) :: rest)) := va_put (D := D) (ci := 4) (v := .int x) (ty := .int) (C := "PassedToken") (T := F_PT) (N := 18) hC.1 hC.2.1 hC.2.2.2.2.1 in_PT t_PT t_PT_ok n_PT hC.2.2.2.1 hK hw.1 hw.2.1 hw.2.2 0 rfl rfl 10 (by decide) (hC.2.2.2.2.1 _ kw_144) (fun _ h9 => h9) rfl (by decide +kernel) rfl rfl (Nat.le_of_ble_eq_true rfl) hdg (fun H1 locs1 hP hD hS => kk H1 locs1 _ h ⟨hP, hD, hS⟩)
theorem gf_C_0_tokens (hC : fx_C p s m args meth c cc "PassedToken" nL) (hK : va_K D vC (tyC cI cZ cT) s) (hw : fw D A H0 (wC ad cI cZ cT v u) H locs) (hdg : decode cc pc = .ok (.getfield 38, 3)) (kk : W p l e R s m args below meth c H locs cells slots Q (F0 m (pc + 3) ls (.int (u.1 5) :: rest))) : W p l e R s m args below meth c H locs cells slots Q (F0 m pc ls (.ref (ad 0) :: rest)) := va_get (D := D) (ci := 4) (v := .int (u.1 5)) (C := "PassedToken") (T := F_PT) (N := 18) hC.1 hC.2.1 hC.2.2.2.2.1 in_PT hC.2.2.2.1 hK hw.1 0 rfl rfl 11 (by decide) (hC.2.2.2.2.1 _ kw_145) (fun _ h9 => h9) rfl hdg kk
theorem pf_C_0_tokens {K : ST → Option β} {x : Int32} (hC : fx_C p s m args meth c cc "PassedToken" nL) (hK : va_K D vC (tyC cI cZ cT) s) (hw : fw D A H0 (wC ad cI cZ cT v u) H locs) (hdg : decode cc pc = .ok (.putfield 38, 3)) (h : k_let (ss u 5 x) K = some z) (kk : ∀ (H1 : Heap) (locs1 : List Loc) (u1 : ST), K u1 = some z → fw D A H0 (wC ad cI cZ cT v u1) H1 locs1 → W p l e R s m args below meth c H1 locs1 cells slots Q (F0 m (pc + 3) ls rest)) : W p l e R s m args below meth c H locs cells slots Q (F0 m pc ls (.int x :: .ref (ad 0) :: rest)) := va_put (D := D) (ci := 4) (v := .int x) (ty := .int) (C := "PassedToken") (T := F_PT) (N := 18) hC.1 hC.2.1 hC.2.2.2.2.1 in_PT t_PT t_PT_ok n_PT hC.2.2.2.1 hK hw.1 hw.2.1 hw.2.2 0 rfl rfl 11 (by decide) (hC.2.2.2.2.1 _ kw_145) (fun _ h9 => h9) rfl (by decide +kernel) rfl rfl (Nat.le_of_ble_eq_true rfl) hdg (fun H1 locs1 hP hD hS => kk H1 locs1 _ h ⟨hP, hD, hS⟩)
theorem gf_C_0_tries (hC : fx_C p s m args meth c cc "PassedToken" nL) (hK : va_K D vC (tyC cI cZ cT) s) (hw : fw D A H0 (wC ad cI cZ cT v u) H locs) (hdg : decode cc pc = .ok (.getfield 41, 3)) (kk : W p l e R s m args below meth c H locs cells slots Q (F0 m (pc + 3) ls (.int (u.1 6) :: rest))) : W p l e R s m args below meth c H locs cells slots Q (F0 m pc ls (.ref (ad 0) :: rest)) := va_get (D := D) (ci := 4) (v := .int (u.1 6)) (C := "PassedToken") (T := F_PT) (N := 18) hC.1 hC.2.1 hC.2.2.2.2.1 in_PT hC.2.2.2.1 hK hw.1 0 rfl rfl 12 (by decide) (hC.2.2.2.2.1 _ kw_146) (fun _ h9 => h9) rfl hdg kk
theorem pf_C_0_tries {K : ST → Option β} {x : Int32} (hC : fx_C p s m args meth c cc "PassedToken" nL) (hK : va_K D vC (tyC cI cZ cT) s) (hw : fw D A H0 (wC ad cI cZ cT v u) H locs) (hdg : decode cc pc = .ok (.putfield 41, 3)) (h : k_let (ss u 6 x) K = some z) (kk : ∀ (H1 : Heap) (locs1 : List Loc) (u1 : ST), K u1 = some z → fw D A H0 (wC ad cI cZ cT v u1) H1 locs1 → W p l e R s m args below meth c H1 locs1 cells slots Q (F0 m (pc + 3) ls rest)) : W p l e R s m args below meth c H locs cells slots Q (F0 m pc ls (.int x :: .ref (ad 0) :: rest)) := va_put (D := D) (ci := 4) (v := .int x) (ty := .int) (C := "PassedToken") (T := F_PT) (N := 18) hC.1 hC.2.1 hC.2.2.2.2.1 in_PT t_PT t_PT_ok n_PT hC.2.2.2.1 hK hw.1 hw.2.1 hw.2.2 0 rfl rfl 12 (by decide) (hC.2.2.2.2.1 _ kw_146) (fun _ h9 => h9) rfl (by decide +kernel) rfl rfl (Nat.le_of_ble_eq_true rfl) hdg (fun H1 locs1 hP hD hS => kk H1 locs1 _ h ⟨hP, hD, hS⟩)
theorem gf_C_0_sole (hC : fx_C p s m args meth c cc "PassedToken" nL) (hK : va_K D vC (tyC cI cZ cT) s) (hw : fw D A H0 (wC ad cI cZ cT v u) H locs) (hdg : decode cc pc = .ok (.getfield 44, 3)) (kk : W p l e R s m args below meth c H locs cells slots Q (F0 m (pc + 3) ls (.int (u.1 7) :: rest))) : W p l e R s m args below meth c H locs cells slots Q (F0 m pc ls (.ref (ad 0) :: rest)) := va_get (D := D) (ci := 4) (v := .int (u.1 7)) (C := "PassedToken") (T := F_PT) (N := 18) hC.1 hC.2.1 hC.2.2.2.2.1 in_PT hC.2.2.2.1 hK hw.1 0 rfl rfl 13 (by decide) (hC.2.2.2.2.1 _ kw_147) (fun _ h9 => h9) rfl hdg kk
theorem pf_C_0_sole {K : ST → Option β} {x : Int32} (hC : fx_C p s m args meth c cc "PassedToken" nL) (hK : va_K D vC (tyC cI cZ cT) s) (hw : fw D A H0 (wC ad cI cZ cT v u) H locs) (hv : isz x) (hdg : decode cc pc = .ok (.putfield 44, 3)) (h : k_let (ss u 7 x) K = some z) (kk : ∀ (H1 : Heap) (locs1 : List Loc) (u1 : ST), K u1 = some z → fw D A H0 (wC ad cI cZ cT v u1) H1 locs1 → W p l e R s m args below meth c H1 locs1 cells slots Q (F0 m (pc + 3) ls rest)) : W p l e R s m args below meth c H locs cells slots Q (F0 m pc ls (.int x :: .ref (ad 0) :: rest)) := va_put (D := D) (ci := 4) (v := .int x) (ty := .boolean) (C := "PassedToken") (T := F_PT) (N := 18) hC.1 hC.2.1 hC.2.2.2.2.1 in_PT t_PT t_PT_ok n_PT hC.2.2.2.1 hK hw.1 hw.2.1 hw.2.2 0 rfl rfl 13 (by decide) (hC.2.2.2.2.1 _ kw_147) (fun _ h9 => h9) rfl (by decide +kernel) (by rcases hv with rfl | rfl <;> rfl) (by rcases hv with rfl | rfl <;> rfl) (Nat.le_of_ble_eq_true rfl) hdg (fun H1 locs1 hP hD hS => kk H1 locs1 _ h ⟨hP, hD, hS⟩)
theorem gf_C_0_events (hC : fx_C p s m args meth c cc "PassedToken" nL) (hK : va_K D vC (tyC cI cZ cT) s) (hw : fw D A H0 (wC ad cI cZ cT v u) H locs) (hdg : decode cc pc = .ok (.getfield 48, 3)) (kk : W p l e R s m args below meth c H locs cells slots Q (F0 m (pc + 3) ls (.int (u.1 8) :: rest))) : W p l e R s m args below meth c H locs cells slots Q (F0 m pc ls (.ref (ad 0) :: rest)) := va_get (D := D) (ci := 4) (v := .int (u.1 8)) (C := "PassedToken") (T := F_PT) (N := 18) hC.1 hC.2.1 hC.2.2.2.2.1 in_PT hC.2.2.2.1 hK hw.1 0 rfl rfl 14 (by decide) (hC.2.2.2.2.1 _ kw_148) (fun _ h9 => h9) rfl hdg kk
theorem pf_C_0_events {K : ST → Option β} {x : Int32} (hC : fx_C p s m args meth c cc "PassedToken" nL) (hK : va_K D vC (tyC cI cZ cT) s) (hw : fw D A H0 (wC ad cI cZ cT v u) H locs) (hdg : decode cc pc = .ok (.putfield 48, 3)) (h : k_let (ss u 8 x) K = some z) (kk : ∀ (H1 : Heap) (locs1 : List Loc) (u1 : ST), K u1 = some z → fw D A H0 (wC ad cI cZ cT v u1) H1 locs1 → W p l e R s m args below meth c H1 locs1 cells slots Q (F0 m (pc + 3) ls rest)) : W p l e R s m args below meth c H locs cells slots Q (F0 m pc ls (.int x :: .ref (ad 0) :: rest)) := va_put (D := D) (ci := 4) (v := .int x) (ty := .int) (C := "PassedToken") (T := F_PT) (N := 18) hC.1 hC.2.1 hC.2.2.2.2.1 in_PT t_PT t_PT_ok n_PT hC.2.2.2.1 hK hw.1 hw.2.1 hw.2.2 0 rfl rfl 14 (by decide) (hC.2.2.2.2.1 _ kw_148) (fun _ h9 => h9) rfl (by decide +kernel) rfl rfl (Nat.le_of_ble_eq_true rfl) hdg (fun H1 locs1 hP hD hS => kk H1 locs1 _ h ⟨hP, hD, hS⟩)
theorem gf_C_0_stillness (hC : fx_C p s m args meth c cc "PassedToken" nL) (hK : va_K D vC (tyC cI cZ cT) s) (hw : fw D A H0 (wC ad cI cZ cT v u) H locs) (hdg : decode cc pc = .ok (.getfield 51, 3)) (kk : W p l e R s m args below meth c H locs cells slots Q (F0 m (pc + 3) ls (.int (u.1 9) :: rest))) : W p l e R s m args below meth c H locs cells slots Q (F0 m pc ls (.ref (ad 0) :: rest)) := va_get (D := D) (ci := 4) (v := .int (u.1 9)) (C := "PassedToken") (T := F_PT) (N := 18) hC.1 hC.2.1 hC.2.2.2.2.1 in_PT hC.2.2.2.1 hK hw.1 0 rfl rfl 15 (by decide) (hC.2.2.2.2.1 _ kw_149) (fun _ h9 => h9) rfl hdg kk
theorem pf_C_0_stillness {K : ST → Option β} {x : Int32} (hC : fx_C p s m args meth c cc "PassedToken" nL) (hK : va_K D vC (tyC cI cZ cT) s) (hw : fw D A H0 (wC ad cI cZ cT v u) H locs) (hdg : decode cc pc = .ok (.putfield 51, 3)) (h : k_let (ss u 9 x) K = some z) (kk : ∀ (H1 : Heap) (locs1 : List Loc) (u1 : ST), K u1 = some z → fw D A H0 (wC ad cI cZ cT v u1) H1 locs1 → W p l e R s m args below meth c H1 locs1 cells slots Q (F0 m (pc + 3) ls rest)) : W p l e R s m args below meth c H locs cells slots Q (F0 m pc ls (.int x :: .ref (ad 0) :: rest)) := va_put (D := D) (ci := 4) (v := .int x) (ty := .int) (C := "PassedToken") (T := F_PT) (N := 18) hC.1 hC.2.1 hC.2.2.2.2.1 in_PT t_PT t_PT_ok n_PT hC.2.2.2.1 hK hw.1 hw.2.1 hw.2.2 0 rfl rfl 15 (by decide) (hC.2.2.2.2.1 _ kw_149) (fun _ h9 => h9) rfl (by decide +kernel) rfl rfl (Nat.le_of_ble_eq_true rfl) hdg (fun H1 locs1 hP hD hS => kk H1 locs1 _ h ⟨hP, hD, hS⟩)
theorem gf_C_0_requestTo (hC : fx_C p s m args meth c cc "PassedToken" nL) (hK : va_K D vC (tyC cI cZ cT) s) (hw : fw D A H0 (wC ad cI cZ cT v u) H locs) (hdg : decode cc pc = .ok (.getfield 54, 3)) (kk : W p l e R s m args below meth c H locs cells slots Q (F0 m (pc + 3) ls (.int (u.1 10) :: rest))) : W p l e R s m args below meth c H locs cells slots Q (F0 m pc ls (.ref (ad 0) :: rest)) := va_get (D := D) (ci := 4) (v := .int (u.1 10)) (C := "PassedToken") (T := F_PT) (N := 18) hC.1 hC.2.1 hC.2.2.2.2.1 in_PT hC.2.2.2.1 hK hw.1 0 rfl rfl 16 (by decide) (hC.2.2.2.2.1 _ kw_150) (fun _ h9 => h9) rfl hdg kk
theorem pf_C_0_requestTo {K : ST → Option β} {x : Int32} (hC : fx_C p s m args meth c cc "PassedToken" nL) (hK : va_K D vC (tyC cI cZ cT) s) (hw : fw D A H0 (wC ad cI cZ cT v u) H locs) (hdg : decode cc pc = .ok (.putfield 54, 3)) (h : k_let (ss u 10 x) K = some z) (kk : ∀ (H1 : Heap) (locs1 : List Loc) (u1 : ST), K u1 = some z → fw D A H0 (wC ad cI cZ cT v u1) H1 locs1 → W p l e R s m args below meth c H1 locs1 cells slots Q (F0 m (pc + 3) ls rest)) : W p l e R s m args below meth c H locs cells slots Q (F0 m pc ls (.int x :: .ref (ad 0) :: rest)) := va_put (D := D) (ci := 4) (v := .int x) (ty := .int) (C := "PassedToken") (T := F_PT) (N := 18) hC.1 hC.2.1 hC.2.2.2.2.1 in_PT t_PT t_PT_ok n_PT hC.2.2.2.1 hK hw.1 hw.2.1 hw.2.2 0 rfl rfl 16 (by decide) (hC.2.2.2.2.1 _ kw_150) (fun _ h9 => h9) rfl (by decide +kernel) rfl rfl (Nat.le_of_ble_eq_true rfl) hdg (fun H1 locs1 hP hD hS => kk H1 locs1 _ h ⟨hP, hD, hS⟩)
theorem gf_C_0_requestWaits (hC : fx_C p s m args meth c cc "PassedToken" nL) (hK : va_K D vC (tyC cI cZ cT) s) (hw : fw D A H0 (wC ad cI cZ cT v u) H locs) (hdg : decode cc pc = .ok (.getfield 57, 3)) (kk : W p l e R s m args below meth c H locs cells slots Q (F0 m (pc + 3) ls (.int (u.1 11) :: rest))) : W p l e R s m args below meth c H locs cells slots Q (F0 m pc ls (.ref (ad 0) :: rest)) := va_get (D := D) (ci := 4) (v := .int (u.1 11)) (C := "PassedToken") (T := F_PT) (N := 18) hC.1 hC.2.1 hC.2.2.2.2.1 in_PT hC.2.2.2.1 hK hw.1 0 rfl rfl 17 (by decide) (hC.2.2.2.2.1 _ kw_151) (fun _ h9 => h9) rfl hdg kk
theorem pf_C_0_requestWaits {K : ST → Option β} {x : Int32} (hC : fx_C p s m args meth c cc "PassedToken" nL) (hK : va_K D vC (tyC cI cZ cT) s) (hw : fw D A H0 (wC ad cI cZ cT v u) H locs) (hv : isz x) (hdg : decode cc pc = .ok (.putfield 57, 3)) (h : k_let (ss u 11 x) K = some z) (kk : ∀ (H1 : Heap) (locs1 : List Loc) (u1 : ST), K u1 = some z → fw D A H0 (wC ad cI cZ cT v u1) H1 locs1 → W p l e R s m args below meth c H1 locs1 cells slots Q (F0 m (pc + 3) ls rest)) : W p l e R s m args below meth c H locs cells slots Q (F0 m pc ls (.int x :: .ref (ad 0) :: rest)) := va_put (D := D) (ci := 4) (v := .int x) (ty := .boolean) (C := "PassedToken") (T := F_PT) (N := 18) hC.1 hC.2.1 hC.2.2.2.2.1 in_PT t_PT t_PT_ok n_PT hC.2.2.2.1 hK hw.1 hw.2.1 hw.2.2 0 rfl rfl 17 (by decide) (hC.2.2.2.2.1 _ kw_151) (fun _ h9 => h9) rfl (by decide +kernel) (by rcases hv with rfl | rfl <;> rfl) (by rcases hv with rfl | rfl <;> rfl) (Nat.le_of_ble_eq_true rfl) hdg (fun H1 locs1 hP hD hS => kk H1 locs1 _ h ⟨hP, hD, hS⟩)
theorem gf_C_1_own (hC : fx_C p s m args meth c cc "PassedToken$Ear" nL) (hK : va_K D vC (tyC cI cZ cT) s) (hw : fw D A H0 (wC ad cI cZ cT v u) H locs) (hdg : decode cc pc = .ok (.getfield 35, 3)) (kk : W p l e R s m args below meth c H locs cells slots Q (F0 m (pc + 3) ls (.int (u.1 12) :: rest))) : W p l e R s m args below meth c H locs cells slots Q (F0 m pc ls (.ref (ad 1) :: rest)) := va_get (D := D) (ci := 2) (v := .int (u.1 12)) (C := "PassedToken$Ear") (T := F_Ear) (N := 6) hC.1 hC.2.1 hC.2.2.2.2.1 in_Ear hC.2.2.2.1 hK hw.1 1 rfl rfl 0 (by decide) (hC.2.2.2.2.1 _ kw_115) (fun _ h9 => h9) rfl hdg kk
theorem gf_C_1_header (hC : fx_C p s m args meth c cc "PassedToken$Ear" nL) (hK : va_K D vC (tyC cI cZ cT) s) (hw : fw D A H0 (wC ad cI cZ cT v u) H locs) (hdg : decode cc pc = .ok (.getfield 16, 3)) (kk : W p l e R s m args below meth c H locs cells slots Q (F0 m (pc + 3) ls (.ref (ad 11) :: rest))) : W p l e R s m args below meth c H locs cells slots Q (F0 m pc ls (.ref (ad 1) :: rest)) := va_get (D := D) (ci := 2) (v := .ref (ad 11)) (C := "PassedToken$Ear") (T := F_Ear) (N := 6) hC.1 hC.2.1 hC.2.2.2.2.1 in_Ear hC.2.2.2.1 hK hw.1 1 rfl rfl 1 (by decide) (hC.2.2.2.2.1 _ kw_116) (fun _ h9 => h9) rfl hdg kk
theorem gf_C_1_data (hC : fx_C p s m args meth c cc "PassedToken$Ear" nL) (hK : va_K D vC (tyC cI cZ cT) s) (hw : fw D A H0 (wC ad cI cZ cT v u) H locs) (hdg : decode cc pc = .ok (.getfield 22, 3)) (kk : W p l e R s m args below meth c H locs cells slots Q (F0 m (pc + 3) ls (.ref (ad 13) :: rest))) : W p l e R s m args below meth c H locs cells slots Q (F0 m pc ls (.ref (ad 1) :: rest)) := va_get (D := D) (ci := 2) (v := .ref (ad 13)) (C := "PassedToken$Ear") (T := F_Ear) (N := 6) hC.1 hC.2.1 hC.2.2.2.2.1 in_Ear hC.2.2.2.1 hK hw.1 1 rfl rfl 2 (by decide) (hC.2.2.2.2.1 _ kw_117) (fun _ h9 => h9) rfl hdg kk
theorem gf_C_1_stage (hC : fx_C p s m args meth c cc "PassedToken$Ear" nL) (hK : va_K D vC (tyC cI cZ cT) s) (hw : fw D A H0 (wC ad cI cZ cT v u) H locs) (hdg : decode cc pc = .ok (.getfield 25, 3)) (kk : W p l e R s m args below meth c H locs cells slots Q (F0 m (pc + 3) ls (.int (u.1 13) :: rest))) : W p l e R s m args below meth c H locs cells slots Q (F0 m pc ls (.ref (ad 1) :: rest)) := va_get (D := D) (ci := 2) (v := .int (u.1 13)) (C := "PassedToken$Ear") (T := F_Ear) (N := 6) hC.1 hC.2.1 hC.2.2.2.2.1 in_Ear hC.2.2.2.1 hK hw.1 1 rfl rfl 3 (by decide) (hC.2.2.2.2.1 _ kw_118) (fun _ h9 => h9) rfl hdg kk
theorem pf_C_1_stage {K : ST → Option β} {x : Int32} (hC : fx_C p s m args meth c cc "PassedToken$Ear" nL) (hK : va_K D vC (tyC cI cZ cT) s) (hw : fw D A H0 (wC ad cI cZ cT v u) H locs) (hdg : decode cc pc = .ok (.putfield 25, 3)) (h : k_let (ss u 13 x) K = some z) (kk : ∀ (H1 : Heap) (locs1 : List Loc) (u1 : ST), K u1 = some z → fw D A H0 (wC ad cI cZ cT v u1) H1 locs1 → W p l e R s m args below meth c H1 locs1 cells slots Q (F0 m (pc + 3) ls rest)) : W p l e R s m args below meth c H locs cells slots Q (F0 m pc ls (.int x :: .ref (ad 1) :: rest)) := va_put (D := D) (ci := 2) (v := .int x) (ty := .int) (C := "PassedToken$Ear") (T := F_Ear) (N := 6) hC.1 hC.2.1 hC.2.2.2.2.1 in_Ear t_Ear t_Ear_ok n_Ear hC.2.2.2.1 hK hw.1 hw.2.1 hw.2.2 1 rfl rfl 3 (by decide) (hC.2.2.2.2.1 _ kw_118) (fun _ h9 => h9) rfl (by decide +kernel) rfl rfl (Nat.le_of_ble_eq_true rfl) hdg (fun H1 locs1 hP hD hS => kk H1 locs1 _ h ⟨hP, hD, hS⟩)
theorem gf_C_1_check (hC : fx_C p s m args meth c cc "PassedToken$Ear" nL) (hK : va_K D vC (tyC cI cZ cT) s) (hw : fw D A H0 (wC ad cI cZ cT v u) H locs) (hdg : decode cc pc = .ok (.getfield 29, 3)) (kk : W p l e R s m args below meth c H locs cells slots Q (F0 m (pc + 3) ls (.int (u.1 14) :: rest))) : W p l e R s m args below meth c H locs cells slots Q (F0 m pc ls (.ref (ad 1) :: rest)) := va_get (D := D) (ci := 2) (v := .int (u.1 14)) (C := "PassedToken$Ear") (T := F_Ear) (N := 6) hC.1 hC.2.1 hC.2.2.2.2.1 in_Ear hC.2.2.2.1 hK hw.1 1 rfl rfl 4 (by decide) (hC.2.2.2.2.1 _ kw_119) (fun _ h9 => h9) rfl hdg kk
theorem pf_C_1_check {K : ST → Option β} {x : Int32} (hC : fx_C p s m args meth c cc "PassedToken$Ear" nL) (hK : va_K D vC (tyC cI cZ cT) s) (hw : fw D A H0 (wC ad cI cZ cT v u) H locs) (hdg : decode cc pc = .ok (.putfield 29, 3)) (h : k_let (ss u 14 x) K = some z) (kk : ∀ (H1 : Heap) (locs1 : List Loc) (u1 : ST), K u1 = some z → fw D A H0 (wC ad cI cZ cT v u1) H1 locs1 → W p l e R s m args below meth c H1 locs1 cells slots Q (F0 m (pc + 3) ls rest)) : W p l e R s m args below meth c H locs cells slots Q (F0 m pc ls (.int x :: .ref (ad 1) :: rest)) := va_put (D := D) (ci := 2) (v := .int x) (ty := .int) (C := "PassedToken$Ear") (T := F_Ear) (N := 6) hC.1 hC.2.1 hC.2.2.2.2.1 in_Ear t_Ear t_Ear_ok n_Ear hC.2.2.2.1 hK hw.1 hw.2.1 hw.2.2 1 rfl rfl 4 (by decide) (hC.2.2.2.2.1 _ kw_119) (fun _ h9 => h9) rfl (by decide +kernel) rfl rfl (Nat.le_of_ble_eq_true rfl) hdg (fun H1 locs1 hP hD hS => kk H1 locs1 _ h ⟨hP, hD, hS⟩)
theorem gf_C_1_lowCheck (hC : fx_C p s m args meth c cc "PassedToken$Ear" nL) (hK : va_K D vC (tyC cI cZ cT) s) (hw : fw D A H0 (wC ad cI cZ cT v u) H locs) (hdg : decode cc pc = .ok (.getfield 32, 3)) (kk : W p l e R s m args below meth c H locs cells slots Q (F0 m (pc + 3) ls (.int (u.1 15) :: rest))) : W p l e R s m args below meth c H locs cells slots Q (F0 m pc ls (.ref (ad 1) :: rest)) := va_get (D := D) (ci := 2) (v := .int (u.1 15)) (C := "PassedToken$Ear") (T := F_Ear) (N := 6) hC.1 hC.2.1 hC.2.2.2.2.1 in_Ear hC.2.2.2.1 hK hw.1 1 rfl rfl 5 (by decide) (hC.2.2.2.2.1 _ kw_120) (fun _ h9 => h9) rfl hdg kk
theorem pf_C_1_lowCheck {K : ST → Option β} {x : Int32} (hC : fx_C p s m args meth c cc "PassedToken$Ear" nL) (hK : va_K D vC (tyC cI cZ cT) s) (hw : fw D A H0 (wC ad cI cZ cT v u) H locs) (hdg : decode cc pc = .ok (.putfield 32, 3)) (h : k_let (ss u 15 x) K = some z) (kk : ∀ (H1 : Heap) (locs1 : List Loc) (u1 : ST), K u1 = some z → fw D A H0 (wC ad cI cZ cT v u1) H1 locs1 → W p l e R s m args below meth c H1 locs1 cells slots Q (F0 m (pc + 3) ls rest)) : W p l e R s m args below meth c H locs cells slots Q (F0 m pc ls (.int x :: .ref (ad 1) :: rest)) := va_put (D := D) (ci := 2) (v := .int x) (ty := .int) (C := "PassedToken$Ear") (T := F_Ear) (N := 6) hC.1 hC.2.1 hC.2.2.2.2.1 in_Ear t_Ear t_Ear_ok n_Ear hC.2.2.2.1 hK hw.1 hw.2.1 hw.2.2 1 rfl rfl 5 (by decide) (hC.2.2.2.2.1 _ kw_120) (fun _ h9 => h9) rfl (by decide +kernel) rfl rfl (Nat.le_of_ble_eq_true rfl) hdg (fun H1 locs1 hP hD hS => kk H1 locs1 _ h ⟨hP, hD, hS⟩)
theorem gf_C_2_things (hC : fx_C p s m args meth c cc "PassedToken$Desk" nL) (hK : va_K D vC (tyC cI cZ cT) s) (hw : fw D A H0 (wC ad cI cZ cT v u) H locs) (hdg : decode cc pc = .ok (.getfield 11, 3)) (kk : W p l e R s m args below meth c H locs cells slots Q (F0 m (pc + 3) ls (.ref (ad 17) :: rest))) : W p l e R s m args below meth c H locs cells slots Q (F0 m pc ls (.ref (ad 2) :: rest)) := va_get (D := D) (ci := 3) (v := .ref (ad 17)) (C := "PassedToken$Desk") (T := F_Desk) (N := 13) hC.1 hC.2.1 hC.2.2.2.2.1 in_Desk hC.2.2.2.1 hK hw.1 2 rfl rfl 0 (by decide) (hC.2.2.2.2.1 _ kw_61) (fun _ h9 => h9) rfl hdg kk
theorem gf_C_2_answer (hC : fx_C p s m args meth c cc "PassedToken$Desk" nL) (hK : va_K D vC (tyC cI cZ cT) s) (hw : fw D A H0 (wC ad cI cZ cT v u) H locs) (hdg : decode cc pc = .ok (.getfield 22, 3)) (kk : W p l e R s m args below meth c H locs cells slots Q (F0 m (pc + 3) ls (.ref (ad 15) :: rest))) : W p l e R s m args below meth c H locs cells slots Q (F0 m pc ls (.ref (ad 2) :: rest)) := va_get (D := D) (ci := 3) (v := .ref (ad 15)) (C := "PassedToken$Desk") (T := F_Desk) (N := 13) hC.1 hC.2.1 hC.2.2.2.2.1 in_Desk hC.2.2.2.1 hK hw.1 2 rfl rfl 1 (by decide) (hC.2.2.2.2.1 _ kw_62) (fun _ h9 => h9) rfl hdg kk
theorem gf_C_2_asked {K : Option β} (hC : fx_C p s m args meth c cc "PassedToken$Desk" nL) (hK : va_K D vC (tyC cI cZ cT) s) (hw : fw D A H0 (wC ad cI cZ cT v u) H locs) (hdg : decode cc pc = .ok (.getfield 26, 3)) (h : k_gd (u.1 32 = 1) K = some z) (kk : K = some z → W p l e R s m args below meth c H locs cells slots Q (F0 m (pc + 3) ls (.ref (ad 13) :: rest))) : W p l e R s m args below meth c H locs cells slots Q (F0 m pc ls (.ref (ad 2) :: rest)) := by
  obtain ⟨h1, h2⟩ := k_gd_some h
  refine va_get (D := D) (ci := 3) (v := .ref (aq ad (u.1 32))) (C := "PassedToken$Desk") (T := F_Desk) (N := 13) hC.1 hC.2.1 hC.2.2.2.2.1 in_Desk hC.2.2.2.1 hK hw.1 2 rfl rfl 2 (by decide) (hC.2.2.2.2.1 _ kw_63) (fun _ h9 => h9) rfl hdg ?_
  rw [h1]
  exact kk h2
theorem pf_C_2_asked {K : ST → Option β} (hC : fx_C p s m args meth c cc "PassedToken$Desk" nL) (hK : va_K D vC (tyC cI cZ cT) s) (hw : fw D A H0 (wC ad cI cZ cT v u) H locs) (hdg : decode cc pc = .ok (.putfield 26, 3)) (h : k_let (ss u 32 1) K = some z) (kk : ∀ (H1 : Heap) (locs1 : List Loc) (u1 : ST), K u1 = some z → fw D A H0 (wC ad cI cZ cT v u1) H1 locs1 → W p l e R s m args below meth c H1 locs1 cells slots Q (F0 m (pc + 3) ls rest)) : W p l e R s m args below meth c H locs cells slots Q (F0 m pc ls (.ref (ad 13) :: .ref (ad 2) :: rest)) := va_put (D := D) (ci := 3) (v := .ref (ad 13)) (ty := .object "PassedToken$Row") (C := "PassedToken$Desk") (T := F_Desk) (N := 13) hC.1 hC.2.1 hC.2.2.2.2.1 in_Desk t_Desk t_Desk_ok n_Desk hC.2.2.2.1 hK hw.1 hw.2.1 hw.2.2 2 rfl rfl 2 (by decide) (hC.2.2.2.2.1 _ kw_63) (fun _ h9 => h9) rfl (by decide +kernel) rfl rfl (Nat.le_of_ble_eq_true rfl) hdg (fun H1 locs1 hP hD hS => kk H1 locs1 _ h ⟨hP, hD, hS⟩)
theorem gf_C_2_at (hC : fx_C p s m args meth c cc "PassedToken$Desk" nL) (hK : va_K D vC (tyC cI cZ cT) s) (hw : fw D A H0 (wC ad cI cZ cT v u) H locs) (hdg : decode cc pc = .ok (.getfield 29, 3)) (kk : W p l e R s m args below meth c H locs cells slots Q (F0 m (pc + 3) ls (.int (u.1 16) :: rest))) : W p l e R s m args below meth c H locs cells slots Q (F0 m pc ls (.ref (ad 2) :: rest)) := va_get (D := D) (ci := 3) (v := .int (u.1 16)) (C := "PassedToken$Desk") (T := F_Desk) (N := 13) hC.1 hC.2.1 hC.2.2.2.2.1 in_Desk hC.2.2.2.1 hK hw.1 2 rfl rfl 3 (by decide) (hC.2.2.2.2.1 _ kw_64) (fun _ h9 => h9) rfl hdg kk
theorem pf_C_2_at {K : ST → Option β} {x : Int32} (hC : fx_C p s m args meth c cc "PassedToken$Desk" nL) (hK : va_K D vC (tyC cI cZ cT) s) (hw : fw D A H0 (wC ad cI cZ cT v u) H locs) (hdg : decode cc pc = .ok (.putfield 29, 3)) (h : k_let (ss u 16 x) K = some z) (kk : ∀ (H1 : Heap) (locs1 : List Loc) (u1 : ST), K u1 = some z → fw D A H0 (wC ad cI cZ cT v u1) H1 locs1 → W p l e R s m args below meth c H1 locs1 cells slots Q (F0 m (pc + 3) ls rest)) : W p l e R s m args below meth c H locs cells slots Q (F0 m pc ls (.int x :: .ref (ad 2) :: rest)) := va_put (D := D) (ci := 3) (v := .int x) (ty := .int) (C := "PassedToken$Desk") (T := F_Desk) (N := 13) hC.1 hC.2.1 hC.2.2.2.2.1 in_Desk t_Desk t_Desk_ok n_Desk hC.2.2.2.1 hK hw.1 hw.2.1 hw.2.2 2 rfl rfl 3 (by decide) (hC.2.2.2.2.1 _ kw_64) (fun _ h9 => h9) rfl (by decide +kernel) rfl rfl (Nat.le_of_ble_eq_true rfl) hdg (fun H1 locs1 hP hD hS => kk H1 locs1 _ h ⟨hP, hD, hS⟩)
theorem gf_C_2_id (hC : fx_C p s m args meth c cc "PassedToken$Desk" nL) (hK : va_K D vC (tyC cI cZ cT) s) (hw : fw D A H0 (wC ad cI cZ cT v u) H locs) (hdg : decode cc pc = .ok (.getfield 33, 3)) (kk : W p l e R s m args below meth c H locs cells slots Q (F0 m (pc + 3) ls (.int (u.1 17) :: rest))) : W p l e R s m args below meth c H locs cells slots Q (F0 m pc ls (.ref (ad 2) :: rest)) := va_get (D := D) (ci := 3) (v := .int (u.1 17)) (C := "PassedToken$Desk") (T := F_Desk) (N := 13) hC.1 hC.2.1 hC.2.2.2.2.1 in_Desk hC.2.2.2.1 hK hw.1 2 rfl rfl 4 (by decide) (hC.2.2.2.2.1 _ kw_65) (fun _ h9 => h9) rfl hdg kk
theorem pf_C_2_id {K : ST → Option β} {x : Int32} (hC : fx_C p s m args meth c cc "PassedToken$Desk" nL) (hK : va_K D vC (tyC cI cZ cT) s) (hw : fw D A H0 (wC ad cI cZ cT v u) H locs) (hdg : decode cc pc = .ok (.putfield 33, 3)) (h : k_let (ss u 17 x) K = some z) (kk : ∀ (H1 : Heap) (locs1 : List Loc) (u1 : ST), K u1 = some z → fw D A H0 (wC ad cI cZ cT v u1) H1 locs1 → W p l e R s m args below meth c H1 locs1 cells slots Q (F0 m (pc + 3) ls rest)) : W p l e R s m args below meth c H locs cells slots Q (F0 m pc ls (.int x :: .ref (ad 2) :: rest)) := va_put (D := D) (ci := 3) (v := .int x) (ty := .int) (C := "PassedToken$Desk") (T := F_Desk) (N := 13) hC.1 hC.2.1 hC.2.2.2.2.1 in_Desk t_Desk t_Desk_ok n_Desk hC.2.2.2.1 hK hw.1 hw.2.1 hw.2.2 2 rfl rfl 4 (by decide) (hC.2.2.2.2.1 _ kw_65) (fun _ h9 => h9) rfl (by decide +kernel) rfl rfl (Nat.le_of_ble_eq_true rfl) hdg (fun H1 locs1 hP hD hS => kk H1 locs1 _ h ⟨hP, hD, hS⟩)
theorem gf_C_2_service (hC : fx_C p s m args meth c cc "PassedToken$Desk" nL) (hK : va_K D vC (tyC cI cZ cT) s) (hw : fw D A H0 (wC ad cI cZ cT v u) H locs) (hdg : decode cc pc = .ok (.getfield 36, 3)) (kk : W p l e R s m args below meth c H locs cells slots Q (F0 m (pc + 3) ls (.int (u.1 18) :: rest))) : W p l e R s m args below meth c H locs cells slots Q (F0 m pc ls (.ref (ad 2) :: rest)) := va_get (D := D) (ci := 3) (v := .int (u.1 18)) (C := "PassedToken$Desk") (T := F_Desk) (N := 13) hC.1 hC.2.1 hC.2.2.2.2.1 in_Desk hC.2.2.2.1 hK hw.1 2 rfl rfl 5 (by decide) (hC.2.2.2.2.1 _ kw_66) (fun _ h9 => h9) rfl hdg kk
theorem pf_C_2_service {K : ST → Option β} {x : Int32} (hC : fx_C p s m args meth c cc "PassedToken$Desk" nL) (hK : va_K D vC (tyC cI cZ cT) s) (hw : fw D A H0 (wC ad cI cZ cT v u) H locs) (hdg : decode cc pc = .ok (.putfield 36, 3)) (h : k_let (ss u 18 x) K = some z) (kk : ∀ (H1 : Heap) (locs1 : List Loc) (u1 : ST), K u1 = some z → fw D A H0 (wC ad cI cZ cT v u1) H1 locs1 → W p l e R s m args below meth c H1 locs1 cells slots Q (F0 m (pc + 3) ls rest)) : W p l e R s m args below meth c H locs cells slots Q (F0 m pc ls (.int x :: .ref (ad 2) :: rest)) := va_put (D := D) (ci := 3) (v := .int x) (ty := .int) (C := "PassedToken$Desk") (T := F_Desk) (N := 13) hC.1 hC.2.1 hC.2.2.2.2.1 in_Desk t_Desk t_Desk_ok n_Desk hC.2.2.2.1 hK hw.1 hw.2.1 hw.2.2 2 rfl rfl 5 (by decide) (hC.2.2.2.2.1 _ kw_66) (fun _ h9 => h9) rfl (by decide +kernel) rfl rfl (Nat.le_of_ble_eq_true rfl) hdg (fun H1 locs1 hP hD hS => kk H1 locs1 _ h ⟨hP, hD, hS⟩)
theorem gf_C_2_reference (hC : fx_C p s m args meth c cc "PassedToken$Desk" nL) (hK : va_K D vC (tyC cI cZ cT) s) (hw : fw D A H0 (wC ad cI cZ cT v u) H locs) (hdg : decode cc pc = .ok (.getfield 39, 3)) (kk : W p l e R s m args below meth c H locs cells slots Q (F0 m (pc + 3) ls (.int (u.1 19) :: rest))) : W p l e R s m args below meth c H locs cells slots Q (F0 m pc ls (.ref (ad 2) :: rest)) := va_get (D := D) (ci := 3) (v := .int (u.1 19)) (C := "PassedToken$Desk") (T := F_Desk) (N := 13) hC.1 hC.2.1 hC.2.2.2.2.1 in_Desk hC.2.2.2.1 hK hw.1 2 rfl rfl 6 (by decide) (hC.2.2.2.2.1 _ kw_67) (fun _ h9 => h9) rfl hdg kk
theorem pf_C_2_reference {K : ST → Option β} {x : Int32} (hC : fx_C p s m args meth c cc "PassedToken$Desk" nL) (hK : va_K D vC (tyC cI cZ cT) s) (hw : fw D A H0 (wC ad cI cZ cT v u) H locs) (hdg : decode cc pc = .ok (.putfield 39, 3)) (h : k_let (ss u 19 x) K = some z) (kk : ∀ (H1 : Heap) (locs1 : List Loc) (u1 : ST), K u1 = some z → fw D A H0 (wC ad cI cZ cT v u1) H1 locs1 → W p l e R s m args below meth c H1 locs1 cells slots Q (F0 m (pc + 3) ls rest)) : W p l e R s m args below meth c H locs cells slots Q (F0 m pc ls (.int x :: .ref (ad 2) :: rest)) := va_put (D := D) (ci := 3) (v := .int x) (ty := .int) (C := "PassedToken$Desk") (T := F_Desk) (N := 13) hC.1 hC.2.1 hC.2.2.2.2.1 in_Desk t_Desk t_Desk_ok n_Desk hC.2.2.2.1 hK hw.1 hw.2.1 hw.2.2 2 rfl rfl 6 (by decide) (hC.2.2.2.2.1 _ kw_67) (fun _ h9 => h9) rfl (by decide +kernel) rfl rfl (Nat.le_of_ble_eq_true rfl) hdg (fun H1 locs1 hP hD hS => kk H1 locs1 _ h ⟨hP, hD, hS⟩)
theorem gf_C_2_asksFor (hC : fx_C p s m args meth c cc "PassedToken$Desk" nL) (hK : va_K D vC (tyC cI cZ cT) s) (hw : fw D A H0 (wC ad cI cZ cT v u) H locs) (hdg : decode cc pc = .ok (.getfield 42, 3)) (kk : W p l e R s m args below meth c H locs cells slots Q (F0 m (pc + 3) ls (tv ad (u.1 33) :: rest))) : W p l e R s m args below meth c H locs cells slots Q (F0 m pc ls (.ref (ad 2) :: rest)) := va_get (D := D) (ci := 3) (v := tv ad (u.1 33)) (C := "PassedToken$Desk") (T := F_Desk) (N := 13) hC.1 hC.2.1 hC.2.2.2.2.1 in_Desk hC.2.2.2.1 hK hw.1 2 rfl rfl 7 (by decide) (hC.2.2.2.2.1 _ kw_68) (fun _ h9 => h9) rfl hdg kk
theorem pf_C_2_asksFor {K : ST → Option β} {a : Int32} {x : Value} (hx : tv ad a = x) (hC : fx_C p s m args meth c cc "PassedToken$Desk" nL) (hK : va_K D vC (tyC cI cZ cT) s) (hw : fw D A H0 (wC ad cI cZ cT v u) H locs) (hdg : decode cc pc = .ok (.putfield 42, 3)) (h : k_let (ss u 33 a) K = some z) (kk : ∀ (H1 : Heap) (locs1 : List Loc) (u1 : ST), K u1 = some z → fw D A H0 (wC ad cI cZ cT v u1) H1 locs1 → W p l e R s m args below meth c H1 locs1 cells slots Q (F0 m (pc + 3) ls rest)) : W p l e R s m args below meth c H locs cells slots Q (F0 m pc ls (x :: .ref (ad 2) :: rest)) := by
  subst hx
  exact va_put (D := D) (ci := 3) (v := tv ad a) (ty := .object "PassedToken$Thing") (C := "PassedToken$Desk") (T := F_Desk) (N := 13) hC.1 hC.2.1 hC.2.2.2.2.1 in_Desk t_Desk t_Desk_ok n_Desk hC.2.2.2.1 hK hw.1 hw.2.1 hw.2.2 2 rfl rfl 7 (by decide) (hC.2.2.2.2.1 _ kw_68) (fun _ h9 => h9) rfl (by decide +kernel) (tv_nar _ _) (tv_fits _ _) (Nat.le_of_ble_eq_true rfl) hdg (fun H1 locs1 hP hD hS => kk H1 locs1 _ h ⟨hP, hD, hS⟩)
theorem gf_C_2_property (hC : fx_C p s m args meth c cc "PassedToken$Desk" nL) (hK : va_K D vC (tyC cI cZ cT) s) (hw : fw D A H0 (wC ad cI cZ cT v u) H locs) (hdg : decode cc pc = .ok (.getfield 46, 3)) (kk : W p l e R s m args below meth c H locs cells slots Q (F0 m (pc + 3) ls (.int (u.1 20) :: rest))) : W p l e R s m args below meth c H locs cells slots Q (F0 m pc ls (.ref (ad 2) :: rest)) := va_get (D := D) (ci := 3) (v := .int (u.1 20)) (C := "PassedToken$Desk") (T := F_Desk) (N := 13) hC.1 hC.2.1 hC.2.2.2.2.1 in_Desk hC.2.2.2.1 hK hw.1 2 rfl rfl 8 (by decide) (hC.2.2.2.2.1 _ kw_69) (fun _ h9 => h9) rfl hdg kk
theorem pf_C_2_property {K : ST → Option β} {x : Int32} (hC : fx_C p s m args meth c cc "PassedToken$Desk" nL) (hK : va_K D vC (tyC cI cZ cT) s) (hw : fw D A H0 (wC ad cI cZ cT v u) H locs) (hdg : decode cc pc = .ok (.putfield 46, 3)) (h : k_let (ss u 20 x) K = some z) (kk : ∀ (H1 : Heap) (locs1 : List Loc) (u1 : ST), K u1 = some z → fw D A H0 (wC ad cI cZ cT v u1) H1 locs1 → W p l e R s m args below meth c H1 locs1 cells slots Q (F0 m (pc + 3) ls rest)) : W p l e R s m args below meth c H locs cells slots Q (F0 m pc ls (.int x :: .ref (ad 2) :: rest)) := va_put (D := D) (ci := 3) (v := .int x) (ty := .int) (C := "PassedToken$Desk") (T := F_Desk) (N := 13) hC.1 hC.2.1 hC.2.2.2.2.1 in_Desk t_Desk t_Desk_ok n_Desk hC.2.2.2.1 hK hw.1 hw.2.1 hw.2.2 2 rfl rfl 8 (by decide) (hC.2.2.2.2.1 _ kw_69) (fun _ h9 => h9) rfl (by decide +kernel) rfl rfl (Nat.le_of_ble_eq_true rfl) hdg (fun H1 locs1 hP hD hS => kk H1 locs1 _ h ⟨hP, hD, hS⟩)
theorem gf_C_2_index (hC : fx_C p s m args meth c cc "PassedToken$Desk" nL) (hK : va_K D vC (tyC cI cZ cT) s) (hw : fw D A H0 (wC ad cI cZ cT v u) H locs) (hdg : decode cc pc = .ok (.getfield 49, 3)) (kk : W p l e R s m args below meth c H locs cells slots Q (F0 m (pc + 3) ls (.int (u.1 21) :: rest))) : W p l e R s m args below meth c H locs cells slots Q (F0 m pc ls (.ref (ad 2) :: rest)) := va_get (D := D) (ci := 3) (v := .int (u.1 21)) (C := "PassedToken$Desk") (T := F_Desk) (N := 13) hC.1 hC.2.1 hC.2.2.2.2.1 in_Desk hC.2.2.2.1 hK hw.1 2 rfl rfl 9 (by decide) (hC.2.2.2.2.1 _ kw_70) (fun _ h9 => h9) rfl hdg kk
theorem pf_C_2_index {K : ST → Option β} {x : Int32} (hC : fx_C p s m args meth c cc "PassedToken$Desk" nL) (hK : va_K D vC (tyC cI cZ cT) s) (hw : fw D A H0 (wC ad cI cZ cT v u) H locs) (hdg : decode cc pc = .ok (.putfield 49, 3)) (h : k_let (ss u 21 x) K = some z) (kk : ∀ (H1 : Heap) (locs1 : List Loc) (u1 : ST), K u1 = some z → fw D A H0 (wC ad cI cZ cT v u1) H1 locs1 → W p l e R s m args below meth c H1 locs1 cells slots Q (F0 m (pc + 3) ls rest)) : W p l e R s m args below meth c H locs cells slots Q (F0 m pc ls (.int x :: .ref (ad 2) :: rest)) := va_put (D := D) (ci := 3) (v := .int x) (ty := .int) (C := "PassedToken$Desk") (T := F_Desk) (N := 13) hC.1 hC.2.1 hC.2.2.2.2.1 in_Desk t_Desk t_Desk_ok n_Desk hC.2.2.2.1 hK hw.1 hw.2.1 hw.2.2 2 rfl rfl 9 (by decide) (hC.2.2.2.2.1 _ kw_70) (fun _ h9 => h9) rfl (by decide +kernel) rfl rfl (Nat.le_of_ble_eq_true rfl) hdg (fun H1 locs1 hP hD hS => kk H1 locs1 _ h ⟨hP, hD, hS⟩)
theorem gf_C_2_writtenMark (hC : fx_C p s m args meth c cc "PassedToken$Desk" nL) (hK : va_K D vC (tyC cI cZ cT) s) (hw : fw D A H0 (wC ad cI cZ cT v u) H locs) (hdg : decode cc pc = .ok (.getfield 52, 3)) (kk : W p l e R s m args below meth c H locs cells slots Q (F0 m (pc + 3) ls (.int (u.1 22) :: rest))) : W p l e R s m args below meth c H locs cells slots Q (F0 m pc ls (.ref (ad 2) :: rest)) := va_get (D := D) (ci := 3) (v := .int (u.1 22)) (C := "PassedToken$Desk") (T := F_Desk) (N := 13) hC.1 hC.2.1 hC.2.2.2.2.1 in_Desk hC.2.2.2.1 hK hw.1 2 rfl rfl 10 (by decide) (hC.2.2.2.2.1 _ kw_71) (fun _ h9 => h9) rfl hdg kk
theorem pf_C_2_writtenMark {K : ST → Option β} {x : Int32} (hC : fx_C p s m args meth c cc "PassedToken$Desk" nL) (hK : va_K D vC (tyC cI cZ cT) s) (hw : fw D A H0 (wC ad cI cZ cT v u) H locs) (hdg : decode cc pc = .ok (.putfield 52, 3)) (h : k_let (ss u 22 x) K = some z) (kk : ∀ (H1 : Heap) (locs1 : List Loc) (u1 : ST), K u1 = some z → fw D A H0 (wC ad cI cZ cT v u1) H1 locs1 → W p l e R s m args below meth c H1 locs1 cells slots Q (F0 m (pc + 3) ls rest)) : W p l e R s m args below meth c H locs cells slots Q (F0 m pc ls (.int x :: .ref (ad 2) :: rest)) := va_put (D := D) (ci := 3) (v := .int x) (ty := .int) (C := "PassedToken$Desk") (T := F_Desk) (N := 13) hC.1 hC.2.1 hC.2.2.2.2.1 in_Desk t_Desk t_Desk_ok n_Desk hC.2.2.2.1 hK hw.1 hw.2.1 hw.2.2 2 rfl rfl 10 (by decide) (hC.2.2.2.2.1 _ kw_71) (fun _ h9 => h9) rfl (by decide +kernel) rfl rfl (Nat.le_of_ble_eq_true rfl) hdg (fun H1 locs1 hP hD hS => kk H1 locs1 _ h ⟨hP, hD, hS⟩)
theorem gf_C_2_writtenValue (hC : fx_C p s m args meth c cc "PassedToken$Desk" nL) (hK : va_K D vC (tyC cI cZ cT) s) (hw : fw D A H0 (wC ad cI cZ cT v u) H locs) (hdg : decode cc pc = .ok (.getfield 55, 3)) (kk : W p l e R s m args below meth c H locs cells slots Q (F0 m (pc + 3) ls (.int (u.1 23) :: rest))) : W p l e R s m args below meth c H locs cells slots Q (F0 m pc ls (.ref (ad 2) :: rest)) := va_get (D := D) (ci := 3) (v := .int (u.1 23)) (C := "PassedToken$Desk") (T := F_Desk) (N := 13) hC.1 hC.2.1 hC.2.2.2.2.1 in_Desk hC.2.2.2.1 hK hw.1 2 rfl rfl 11 (by decide) (hC.2.2.2.2.1 _ kw_72) (fun _ h9 => h9) rfl hdg kk
theorem pf_C_2_writtenValue {K : ST → Option β} {x : Int32} (hC : fx_C p s m args meth c cc "PassedToken$Desk" nL) (hK : va_K D vC (tyC cI cZ cT) s) (hw : fw D A H0 (wC ad cI cZ cT v u) H locs) (hdg : decode cc pc = .ok (.putfield 55, 3)) (h : k_let (ss u 23 x) K = some z) (kk : ∀ (H1 : Heap) (locs1 : List Loc) (u1 : ST), K u1 = some z → fw D A H0 (wC ad cI cZ cT v u1) H1 locs1 → W p l e R s m args below meth c H1 locs1 cells slots Q (F0 m (pc + 3) ls rest)) : W p l e R s m args below meth c H locs cells slots Q (F0 m pc ls (.int x :: .ref (ad 2) :: rest)) := va_put (D := D) (ci := 3) (v := .int x) (ty := .int) (C := "PassedToken$Desk") (T := F_Desk) (N := 13) hC.1 hC.2.1 hC.2.2.2.2.1 in_Desk t_Desk t_Desk_ok n_Desk hC.2.2.2.1 hK hw.1 hw.2.1 hw.2.2 2 rfl rfl 11 (by decide) (hC.2.2.2.2.1 _ kw_72) (fun _ h9 => h9) rfl (by decide +kernel) rfl rfl (Nat.le_of_ble_eq_true rfl) hdg (fun H1 locs1 hP hD hS => kk H1 locs1 _ h ⟨hP, hD, hS⟩)
theorem gf_C_2_rank (hC : fx_C p s m args meth c cc "PassedToken$Desk" nL) (hK : va_K D vC (tyC cI cZ cT) s) (hw : fw D A H0 (wC ad cI cZ cT v u) H locs) (hdg : decode cc pc = .ok (.getfield 58, 3)) (kk : W p l e R s m args below meth c H locs cells slots Q (F0 m (pc + 3) ls (.int (u.1 24) :: rest))) : W p l e R s m args below meth c H locs cells slots Q (F0 m pc ls (.ref (ad 2) :: rest)) := va_get (D := D) (ci := 3) (v := .int (u.1 24)) (C := "PassedToken$Desk") (T := F_Desk) (N := 13) hC.1 hC.2.1 hC.2.2.2.2.1 in_Desk hC.2.2.2.1 hK hw.1 2 rfl rfl 12 (by decide) (hC.2.2.2.2.1 _ kw_73) (fun _ h9 => h9) rfl hdg kk
theorem pf_C_2_rank {K : ST → Option β} {x : Int32} (hC : fx_C p s m args meth c cc "PassedToken$Desk" nL) (hK : va_K D vC (tyC cI cZ cT) s) (hw : fw D A H0 (wC ad cI cZ cT v u) H locs) (hdg : decode cc pc = .ok (.putfield 58, 3)) (h : k_let (ss u 24 x) K = some z) (kk : ∀ (H1 : Heap) (locs1 : List Loc) (u1 : ST), K u1 = some z → fw D A H0 (wC ad cI cZ cT v u1) H1 locs1 → W p l e R s m args below meth c H1 locs1 cells slots Q (F0 m (pc + 3) ls rest)) : W p l e R s m args below meth c H locs cells slots Q (F0 m pc ls (.int x :: .ref (ad 2) :: rest)) := va_put (D := D) (ci := 3) (v := .int x) (ty := .int) (C := "PassedToken$Desk") (T := F_Desk) (N := 13) hC.1 hC.2.1 hC.2.2.2.2.1 in_Desk t_Desk t_Desk_ok n_Desk hC.2.2.2.1 hK hw.1 hw.2.1 hw.2.2 2 rfl rfl 12 (by decide) (hC.2.2.2.2.1 _ kw_73) (fun _ h9 => h9) rfl (by decide +kernel) rfl rfl (Nat.le_of_ble_eq_true rfl) hdg (fun H1 locs1 hP hD hS => kk H1 locs1 _ h ⟨hP, hD, hS⟩)
theorem gf_C_3_bytes (hC : fx_C p s m args meth c cc "PassedToken$Row" nL) (hK : va_K D vC (tyC cI cZ cT) s) (hw : fw D A H0 (wC ad cI cZ cT v u) H locs) (hdg : decode cc pc = .ok (.getfield 15, 3)) (kk : W p l e R s m args below meth c H locs cells slots Q (F0 m (pc + 3) ls (.ref (ad 4) :: rest))) : W p l e R s m args below meth c H locs cells slots Q (F0 m pc ls (.ref (ad 3) :: rest)) := va_get (D := D) (ci := 0) (v := .ref (ad 4)) (C := "PassedToken$Row") (T := F_Row) (N := 2) hC.1 hC.2.1 hC.2.2.2.2.1 in_Row hC.2.2.2.1 hK hw.1 3 rfl rfl 0 (by decide) (hC.2.2.2.2.1 _ kw_23) (fun _ h9 => h9) rfl hdg kk
theorem gf_C_3_count (hC : fx_C p s m args meth c cc "PassedToken$Row" nL) (hK : va_K D vC (tyC cI cZ cT) s) (hw : fw D A H0 (wC ad cI cZ cT v u) H locs) (hdg : decode cc pc = .ok (.getfield 9, 3)) (kk : W p l e R s m args below meth c H locs cells slots Q (F0 m (pc + 3) ls (.int (u.1 25) :: rest))) : W p l e R s m args below meth c H locs cells slots Q (F0 m pc ls (.ref (ad 3) :: rest)) := va_get (D := D) (ci := 0) (v := .int (u.1 25)) (C := "PassedToken$Row") (T := F_Row) (N := 2) hC.1 hC.2.1 hC.2.2.2.2.1 in_Row hC.2.2.2.1 hK hw.1 3 rfl rfl 1 (by decide) (hC.2.2.2.2.1 _ kw_24) (fun _ h9 => h9) rfl hdg kk
theorem pf_C_3_count {K : ST → Option β} {x : Int32} (hC : fx_C p s m args meth c cc "PassedToken$Row" nL) (hK : va_K D vC (tyC cI cZ cT) s) (hw : fw D A H0 (wC ad cI cZ cT v u) H locs) (hdg : decode cc pc = .ok (.putfield 9, 3)) (h : k_let (ss u 25 x) K = some z) (kk : ∀ (H1 : Heap) (locs1 : List Loc) (u1 : ST), K u1 = some z → fw D A H0 (wC ad cI cZ cT v u1) H1 locs1 → W p l e R s m args below meth c H1 locs1 cells slots Q (F0 m (pc + 3) ls rest)) : W p l e R s m args below meth c H locs cells slots Q (F0 m pc ls (.int x :: .ref (ad 3) :: rest)) := va_put (D := D) (ci := 0) (v := .int x) (ty := .int) (C := "PassedToken$Row") (T := F_Row) (N := 2) hC.1 hC.2.1 hC.2.2.2.2.1 in_Row t_Row t_Row_ok n_Row hC.2.2.2.1 hK hw.1 hw.2.1 hw.2.2 3 rfl rfl 1 (by decide) (hC.2.2.2.2.1 _ kw_24) (fun _ h9 => h9) rfl (by decide +kernel) rfl rfl (Nat.le_of_ble_eq_true rfl) hdg (fun H1 locs1 hP hD hS => kk H1 locs1 _ h ⟨hP, hD, hS⟩)
theorem al_C_4 {K : Option β} {i : Int32} (hC : fx_C p s m args meth c cc own nL) (hK : va_K D vC (tyC cI cZ cT) s) (hw : fw D A H0 (wC ad cI cZ cT v u) H locs) (hdg : decode cc pc = .ok (.iaload, 1)) (h : k_gd (inb i 128) K = some z) (kk : K = some z → W p l e R s m args below meth c H locs cells slots Q (F0 m (pc + 1) ls (.int (u.2 0 i.toNatClampNeg) :: rest))) : W p l e R s m args below meth c H locs cells slots Q (F0 m pc ls (.int i :: .ref (ad 4) :: rest)) := va_iald hC.1 hC.2.1 hK hw.1 4 0 rfl rfl (inb_vp (k_gd_some h).1) hdg (kk (k_gd_some h).2)
theorem as_C_4 {K : ST → Option β} {x : Int32} {i : Int32} (hC : fx_C p s m args meth c cc own nL) (hK : va_K D vC (tyC cI cZ cT) s) (hw : fw D A H0 (wC ad cI cZ cT v u) H locs) (hdg : decode cc pc = .ok (.iastore, 1)) (h : k_gd (inb i 128) (k_let (rs u 0 i.toNatClampNeg x) K) = some z) (kk : ∀ (H1 : Heap) (locs1 : List Loc) (u1 : ST), K u1 = some z → fw D A H0 (wC ad cI cZ cT v u1) H1 locs1 → W p l e R s m args below meth c H1 locs1 cells slots Q (F0 m (pc + 1) ls rest)) : W p l e R s m args below meth c H locs cells slots Q (F0 m pc ls (.int x :: .int i :: .ref (ad 4) :: rest)) := va_iast hC.1 hC.2.1 hK hw.1 hw.2.1 hw.2.2 4 0 rfl rfl (inb_vp (k_gd_some h).1) hdg (fun H1 locs1 hP hD hS => kk H1 locs1 _ (k_gd_some h).2 ⟨hP, hD, hS⟩)
theorem ln_C_4 (hC : fx_C p s m args meth c cc own nL) (hK : va_K D vC (tyC cI cZ cT) s) (hw : fw D A H0 (wC ad cI cZ cT v u) H locs) (hdg : decode cc pc = .ok (.arraylength, 1)) (kk : W p l e R s m args below meth c H locs cells slots Q (F0 m (pc + 1) ls (.int 128 :: rest))) : W p l e R s m args below meth c H locs cells slots Q (F0 m pc ls (.ref (ad 4) :: rest)) := va_alen hC.1 hC.2.1 hK hw.1 4 0 rfl rfl rfl hdg kk
theorem gf_C_5_bytes (hC : fx_C p s m args meth c cc "PassedToken$Row" nL) (hK : va_K D vC (tyC cI cZ cT) s) (hw : fw D A H0 (wC ad cI cZ cT v u) H locs) (hdg : decode cc pc = .ok (.getfield 15, 3)) (kk : W p l e R s m args below meth c H locs cells slots Q (F0 m (pc + 3) ls (.ref (ad 6) :: rest))) : W p l e R s m args below meth c H locs cells slots Q (F0 m pc ls (.ref (ad 5) :: rest)) := va_get (D := D) (ci := 0) (v := .ref (ad 6)) (C := "PassedToken$Row") (T := F_Row) (N := 2) hC.1 hC.2.1 hC.2.2.2.2.1 in_Row hC.2.2.2.1 hK hw.1 5 rfl rfl 0 (by decide) (hC.2.2.2.2.1 _ kw_23) (fun _ h9 => h9) rfl hdg kk
theorem gf_C_5_count (hC : fx_C p s m args meth c cc "PassedToken$Row" nL) (hK : va_K D vC (tyC cI cZ cT) s) (hw : fw D A H0 (wC ad cI cZ cT v u) H locs) (hdg : decode cc pc = .ok (.getfield 9, 3)) (kk : W p l e R s m args below meth c H locs cells slots Q (F0 m (pc + 3) ls (.int (u.1 26) :: rest))) : W p l e R s m args below meth c H locs cells slots Q (F0 m pc ls (.ref (ad 5) :: rest)) := va_get (D := D) (ci := 0) (v := .int (u.1 26)) (C := "PassedToken$Row") (T := F_Row) (N := 2) hC.1 hC.2.1 hC.2.2.2.2.1 in_Row hC.2.2.2.1 hK hw.1 5 rfl rfl 1 (by decide) (hC.2.2.2.2.1 _ kw_24) (fun _ h9 => h9) rfl hdg kk
theorem pf_C_5_count {K : ST → Option β} {x : Int32} (hC : fx_C p s m args meth c cc "PassedToken$Row" nL) (hK : va_K D vC (tyC cI cZ cT) s) (hw : fw D A H0 (wC ad cI cZ cT v u) H locs) (hdg : decode cc pc = .ok (.putfield 9, 3)) (h : k_let (ss u 26 x) K = some z) (kk : ∀ (H1 : Heap) (locs1 : List Loc) (u1 : ST), K u1 = some z → fw D A H0 (wC ad cI cZ cT v u1) H1 locs1 → W p l e R s m args below meth c H1 locs1 cells slots Q (F0 m (pc + 3) ls rest)) : W p l e R s m args below meth c H locs cells slots Q (F0 m pc ls (.int x :: .ref (ad 5) :: rest)) := va_put (D := D) (ci := 0) (v := .int x) (ty := .int) (C := "PassedToken$Row") (T := F_Row) (N := 2) hC.1 hC.2.1 hC.2.2.2.2.1 in_Row t_Row t_Row_ok n_Row hC.2.2.2.1 hK hw.1 hw.2.1 hw.2.2 5 rfl rfl 1 (by decide) (hC.2.2.2.2.1 _ kw_24) (fun _ h9 => h9) rfl (by decide +kernel) rfl rfl (Nat.le_of_ble_eq_true rfl) hdg (fun H1 locs1 hP hD hS => kk H1 locs1 _ h ⟨hP, hD, hS⟩)
theorem al_C_6 {K : Option β} {i : Int32} (hC : fx_C p s m args meth c cc own nL) (hK : va_K D vC (tyC cI cZ cT) s) (hw : fw D A H0 (wC ad cI cZ cT v u) H locs) (hdg : decode cc pc = .ok (.iaload, 1)) (h : k_gd (inb i 0) K = some z) (kk : K = some z → W p l e R s m args below meth c H locs cells slots Q (F0 m (pc + 1) ls (.int (u.2 1 i.toNatClampNeg) :: rest))) : W p l e R s m args below meth c H locs cells slots Q (F0 m pc ls (.int i :: .ref (ad 6) :: rest)) := va_iald hC.1 hC.2.1 hK hw.1 6 0 rfl rfl (inb_vp (k_gd_some h).1) hdg (kk (k_gd_some h).2)
theorem as_C_6 {K : ST → Option β} {x : Int32} {i : Int32} (hC : fx_C p s m args meth c cc own nL) (hK : va_K D vC (tyC cI cZ cT) s) (hw : fw D A H0 (wC ad cI cZ cT v u) H locs) (hdg : decode cc pc = .ok (.iastore, 1)) (h : k_gd (inb i 0) (k_let (rs u 1 i.toNatClampNeg x) K) = some z) (kk : ∀ (H1 : Heap) (locs1 : List Loc) (u1 : ST), K u1 = some z → fw D A H0 (wC ad cI cZ cT v u1) H1 locs1 → W p l e R s m args below meth c H1 locs1 cells slots Q (F0 m (pc + 1) ls rest)) : W p l e R s m args below meth c H locs cells slots Q (F0 m pc ls (.int x :: .int i :: .ref (ad 6) :: rest)) := va_iast hC.1 hC.2.1 hK hw.1 hw.2.1 hw.2.2 6 0 rfl rfl (inb_vp (k_gd_some h).1) hdg (fun H1 locs1 hP hD hS => kk H1 locs1 _ (k_gd_some h).2 ⟨hP, hD, hS⟩)
theorem ln_C_6 (hC : fx_C p s m args meth c cc own nL) (hK : va_K D vC (tyC cI cZ cT) s) (hw : fw D A H0 (wC ad cI cZ cT v u) H locs) (hdg : decode cc pc = .ok (.arraylength, 1)) (kk : W p l e R s m args below meth c H locs cells slots Q (F0 m (pc + 1) ls (.int 0 :: rest))) : W p l e R s m args below meth c H locs cells slots Q (F0 m pc ls (.ref (ad 6) :: rest)) := va_alen hC.1 hC.2.1 hK hw.1 6 0 rfl rfl rfl hdg kk
theorem gf_C_7_bytes (hC : fx_C p s m args meth c cc "PassedToken$Row" nL) (hK : va_K D vC (tyC cI cZ cT) s) (hw : fw D A H0 (wC ad cI cZ cT v u) H locs) (hdg : decode cc pc = .ok (.getfield 15, 3)) (kk : W p l e R s m args below meth c H locs cells slots Q (F0 m (pc + 3) ls (.ref (ad 8) :: rest))) : W p l e R s m args below meth c H locs cells slots Q (F0 m pc ls (.ref (ad 7) :: rest)) := va_get (D := D) (ci := 0) (v := .ref (ad 8)) (C := "PassedToken$Row") (T := F_Row) (N := 2) hC.1 hC.2.1 hC.2.2.2.2.1 in_Row hC.2.2.2.1 hK hw.1 7 rfl rfl 0 (by decide) (hC.2.2.2.2.1 _ kw_23) (fun _ h9 => h9) rfl hdg kk
theorem gf_C_7_count (hC : fx_C p s m args meth c cc "PassedToken$Row" nL) (hK : va_K D vC (tyC cI cZ cT) s) (hw : fw D A H0 (wC ad cI cZ cT v u) H locs) (hdg : decode cc pc = .ok (.getfield 9, 3)) (kk : W p l e R s m args below meth c H locs cells slots Q (F0 m (pc + 3) ls (.int (u.1 27) :: rest))) : W p l e R s m args below meth c H locs cells slots Q (F0 m pc ls (.ref (ad 7) :: rest)) := va_get (D := D) (ci := 0) (v := .int (u.1 27)) (C := "PassedToken$Row") (T := F_Row) (N := 2) hC.1 hC.2.1 hC.2.2.2.2.1 in_Row hC.2.2.2.1 hK hw.1 7 rfl rfl 1 (by decide) (hC.2.2.2.2.1 _ kw_24) (fun _ h9 => h9) rfl hdg kk
theorem pf_C_7_count {K : ST → Option β} {x : Int32} (hC : fx_C p s m args meth c cc "PassedToken$Row" nL) (hK : va_K D vC (tyC cI cZ cT) s) (hw : fw D A H0 (wC ad cI cZ cT v u) H locs) (hdg : decode cc pc = .ok (.putfield 9, 3)) (h : k_let (ss u 27 x) K = some z) (kk : ∀ (H1 : Heap) (locs1 : List Loc) (u1 : ST), K u1 = some z → fw D A H0 (wC ad cI cZ cT v u1) H1 locs1 → W p l e R s m args below meth c H1 locs1 cells slots Q (F0 m (pc + 3) ls rest)) : W p l e R s m args below meth c H locs cells slots Q (F0 m pc ls (.int x :: .ref (ad 7) :: rest)) := va_put (D := D) (ci := 0) (v := .int x) (ty := .int) (C := "PassedToken$Row") (T := F_Row) (N := 2) hC.1 hC.2.1 hC.2.2.2.2.1 in_Row t_Row t_Row_ok n_Row hC.2.2.2.1 hK hw.1 hw.2.1 hw.2.2 7 rfl rfl 1 (by decide) (hC.2.2.2.2.1 _ kw_24) (fun _ h9 => h9) rfl (by decide +kernel) rfl rfl (Nat.le_of_ble_eq_true rfl) hdg (fun H1 locs1 hP hD hS => kk H1 locs1 _ h ⟨hP, hD, hS⟩)
theorem al_C_8 {K : Option β} {i : Int32} (hC : fx_C p s m args meth c cc own nL) (hK : va_K D vC (tyC cI cZ cT) s) (hw : fw D A H0 (wC ad cI cZ cT v u) H locs) (hdg : decode cc pc = .ok (.iaload, 1)) (h : k_gd (inb i 13) K = some z) (kk : K = some z → W p l e R s m args below meth c H locs cells slots Q (F0 m (pc + 1) ls (.int (u.2 2 i.toNatClampNeg) :: rest))) : W p l e R s m args below meth c H locs cells slots Q (F0 m pc ls (.int i :: .ref (ad 8) :: rest)) := va_iald hC.1 hC.2.1 hK hw.1 8 0 rfl rfl (inb_vp (k_gd_some h).1) hdg (kk (k_gd_some h).2)
theorem as_C_8 {K : ST → Option β} {x : Int32} {i : Int32} (hC : fx_C p s m args meth c cc own nL) (hK : va_K D vC (tyC cI cZ cT) s) (hw : fw D A H0 (wC ad cI cZ cT v u) H locs) (hdg : decode cc pc = .ok (.iastore, 1)) (h : k_gd (inb i 13) (k_let (rs u 2 i.toNatClampNeg x) K) = some z) (kk : ∀ (H1 : Heap) (locs1 : List Loc) (u1 : ST), K u1 = some z → fw D A H0 (wC ad cI cZ cT v u1) H1 locs1 → W p l e R s m args below meth c H1 locs1 cells slots Q (F0 m (pc + 1) ls rest)) : W p l e R s m args below meth c H locs cells slots Q (F0 m pc ls (.int x :: .int i :: .ref (ad 8) :: rest)) := va_iast hC.1 hC.2.1 hK hw.1 hw.2.1 hw.2.2 8 0 rfl rfl (inb_vp (k_gd_some h).1) hdg (fun H1 locs1 hP hD hS => kk H1 locs1 _ (k_gd_some h).2 ⟨hP, hD, hS⟩)
theorem ln_C_8 (hC : fx_C p s m args meth c cc own nL) (hK : va_K D vC (tyC cI cZ cT) s) (hw : fw D A H0 (wC ad cI cZ cT v u) H locs) (hdg : decode cc pc = .ok (.arraylength, 1)) (kk : W p l e R s m args below meth c H locs cells slots Q (F0 m (pc + 1) ls (.int 13 :: rest))) : W p l e R s m args below meth c H locs cells slots Q (F0 m pc ls (.ref (ad 8) :: rest)) := va_alen hC.1 hC.2.1 hK hw.1 8 0 rfl rfl rfl hdg kk
theorem gf_C_9_bytes (hC : fx_C p s m args meth c cc "PassedToken$Row" nL) (hK : va_K D vC (tyC cI cZ cT) s) (hw : fw D A H0 (wC ad cI cZ cT v u) H locs) (hdg : decode cc pc = .ok (.getfield 15, 3)) (kk : W p l e R s m args below meth c H locs cells slots Q (F0 m (pc + 3) ls (.ref (ad 10) :: rest))) : W p l e R s m args below meth c H locs cells slots Q (F0 m pc ls (.ref (ad 9) :: rest)) := va_get (D := D) (ci := 0) (v := .ref (ad 10)) (C := "PassedToken$Row") (T := F_Row) (N := 2) hC.1 hC.2.1 hC.2.2.2.2.1 in_Row hC.2.2.2.1 hK hw.1 9 rfl rfl 0 (by decide) (hC.2.2.2.2.1 _ kw_23) (fun _ h9 => h9) rfl hdg kk
theorem gf_C_9_count (hC : fx_C p s m args meth c cc "PassedToken$Row" nL) (hK : va_K D vC (tyC cI cZ cT) s) (hw : fw D A H0 (wC ad cI cZ cT v u) H locs) (hdg : decode cc pc = .ok (.getfield 9, 3)) (kk : W p l e R s m args below meth c H locs cells slots Q (F0 m (pc + 3) ls (.int (u.1 28) :: rest))) : W p l e R s m args below meth c H locs cells slots Q (F0 m pc ls (.ref (ad 9) :: rest)) := va_get (D := D) (ci := 0) (v := .int (u.1 28)) (C := "PassedToken$Row") (T := F_Row) (N := 2) hC.1 hC.2.1 hC.2.2.2.2.1 in_Row hC.2.2.2.1 hK hw.1 9 rfl rfl 1 (by decide) (hC.2.2.2.2.1 _ kw_24) (fun _ h9 => h9) rfl hdg kk
theorem pf_C_9_count {K : ST → Option β} {x : Int32} (hC : fx_C p s m args meth c cc "PassedToken$Row" nL) (hK : va_K D vC (tyC cI cZ cT) s) (hw : fw D A H0 (wC ad cI cZ cT v u) H locs) (hdg : decode cc pc = .ok (.putfield 9, 3)) (h : k_let (ss u 28 x) K = some z) (kk : ∀ (H1 : Heap) (locs1 : List Loc) (u1 : ST), K u1 = some z → fw D A H0 (wC ad cI cZ cT v u1) H1 locs1 → W p l e R s m args below meth c H1 locs1 cells slots Q (F0 m (pc + 3) ls rest)) : W p l e R s m args below meth c H locs cells slots Q (F0 m pc ls (.int x :: .ref (ad 9) :: rest)) := va_put (D := D) (ci := 0) (v := .int x) (ty := .int) (C := "PassedToken$Row") (T := F_Row) (N := 2) hC.1 hC.2.1 hC.2.2.2.2.1 in_Row t_Row t_Row_ok n_Row hC.2.2.2.1 hK hw.1 hw.2.1 hw.2.2 9 rfl rfl 1 (by decide) (hC.2.2.2.2.1 _ kw_24) (fun _ h9 => h9) rfl (by decide +kernel) rfl rfl (Nat.le_of_ble_eq_true rfl) hdg (fun H1 locs1 hP hD hS => kk H1 locs1 _ h ⟨hP, hD, hS⟩)
theorem al_C_10 {K : Option β} {i : Int32} (hC : fx_C p s m args meth c cc own nL) (hK : va_K D vC (tyC cI cZ cT) s) (hw : fw D A H0 (wC ad cI cZ cT v u) H locs) (hdg : decode cc pc = .ok (.iaload, 1)) (h : k_gd (inb i 40) K = some z) (kk : K = some z → W p l e R s m args below meth c H locs cells slots Q (F0 m (pc + 1) ls (.int (u.2 3 i.toNatClampNeg) :: rest))) : W p l e R s m args below meth c H locs cells slots Q (F0 m pc ls (.int i :: .ref (ad 10) :: rest)) := va_iald hC.1 hC.2.1 hK hw.1 10 0 rfl rfl (inb_vp (k_gd_some h).1) hdg (kk (k_gd_some h).2)
theorem as_C_10 {K : ST → Option β} {x : Int32} {i : Int32} (hC : fx_C p s m args meth c cc own nL) (hK : va_K D vC (tyC cI cZ cT) s) (hw : fw D A H0 (wC ad cI cZ cT v u) H locs) (hdg : decode cc pc = .ok (.iastore, 1)) (h : k_gd (inb i 40) (k_let (rs u 3 i.toNatClampNeg x) K) = some z) (kk : ∀ (H1 : Heap) (locs1 : List Loc) (u1 : ST), K u1 = some z → fw D A H0 (wC ad cI cZ cT v u1) H1 locs1 → W p l e R s m args below meth c H1 locs1 cells slots Q (F0 m (pc + 1) ls rest)) : W p l e R s m args below meth c H locs cells slots Q (F0 m pc ls (.int x :: .int i :: .ref (ad 10) :: rest)) := va_iast hC.1 hC.2.1 hK hw.1 hw.2.1 hw.2.2 10 0 rfl rfl (inb_vp (k_gd_some h).1) hdg (fun H1 locs1 hP hD hS => kk H1 locs1 _ (k_gd_some h).2 ⟨hP, hD, hS⟩)
theorem ln_C_10 (hC : fx_C p s m args meth c cc own nL) (hK : va_K D vC (tyC cI cZ cT) s) (hw : fw D A H0 (wC ad cI cZ cT v u) H locs) (hdg : decode cc pc = .ok (.arraylength, 1)) (kk : W p l e R s m args below meth c H locs cells slots Q (F0 m (pc + 1) ls (.int 40 :: rest))) : W p l e R s m args below meth c H locs cells slots Q (F0 m pc ls (.ref (ad 10) :: rest)) := va_alen hC.1 hC.2.1 hK hw.1 10 0 rfl rfl rfl hdg kk
theorem gf_C_11_bytes (hC : fx_C p s m args meth c cc "PassedToken$Row" nL) (hK : va_K D vC (tyC cI cZ cT) s) (hw : fw D A H0 (wC ad cI cZ cT v u) H locs) (hdg : decode cc pc = .ok (.getfield 15, 3)) (kk : W p l e R s m args below meth c H locs cells slots Q (F0 m (pc + 3) ls (.ref (ad 12) :: rest))) : W p l e R s m args below meth c H locs cells slots Q (F0 m pc ls (.ref (ad 11) :: rest)) := va_get (D := D) (ci := 0) (v := .ref (ad 12)) (C := "PassedToken$Row") (T := F_Row) (N := 2) hC.1 hC.2.1 hC.2.2.2.2.1 in_Row hC.2.2.2.1 hK hw.1 11 rfl rfl 0 (by decide) (hC.2.2.2.2.1 _ kw_23) (fun _ h9 => h9) rfl hdg kk
theorem gf_C_11_count (hC : fx_C p s m args meth c cc "PassedToken$Row" nL) (hK : va_K D vC (tyC cI cZ cT) s) (hw : fw D A H0 (wC ad cI cZ cT v u) H locs) (hdg : decode cc pc = .ok (.getfield 9, 3)) (kk : W p l e R s m args below meth c H locs cells slots Q (F0 m (pc + 3) ls (.int (u.1 29) :: rest))) : W p l e R s m args below meth c H locs cells slots Q (F0 m pc ls (.ref (ad 11) :: rest)) := va_get (D := D) (ci := 0) (v := .int (u.1 29)) (C := "PassedToken$Row") (T := F_Row) (N := 2) hC.1 hC.2.1 hC.2.2.2.2.1 in_Row hC.2.2.2.1 hK hw.1 11 rfl rfl 1 (by decide) (hC.2.2.2.2.1 _ kw_24) (fun _ h9 => h9) rfl hdg kk
theorem pf_C_11_count {K : ST → Option β} {x : Int32} (hC : fx_C p s m args meth c cc "PassedToken$Row" nL) (hK : va_K D vC (tyC cI cZ cT) s) (hw : fw D A H0 (wC ad cI cZ cT v u) H locs) (hdg : decode cc pc = .ok (.putfield 9, 3)) (h : k_let (ss u 29 x) K = some z) (kk : ∀ (H1 : Heap) (locs1 : List Loc) (u1 : ST), K u1 = some z → fw D A H0 (wC ad cI cZ cT v u1) H1 locs1 → W p l e R s m args below meth c H1 locs1 cells slots Q (F0 m (pc + 3) ls rest)) : W p l e R s m args below meth c H locs cells slots Q (F0 m pc ls (.int x :: .ref (ad 11) :: rest)) := va_put (D := D) (ci := 0) (v := .int x) (ty := .int) (C := "PassedToken$Row") (T := F_Row) (N := 2) hC.1 hC.2.1 hC.2.2.2.2.1 in_Row t_Row t_Row_ok n_Row hC.2.2.2.1 hK hw.1 hw.2.1 hw.2.2 11 rfl rfl 1 (by decide) (hC.2.2.2.2.1 _ kw_24) (fun _ h9 => h9) rfl (by decide +kernel) rfl rfl (Nat.le_of_ble_eq_true rfl) hdg (fun H1 locs1 hP hD hS => kk H1 locs1 _ h ⟨hP, hD, hS⟩)
theorem al_C_12 {K : Option β} {i : Int32} (hC : fx_C p s m args meth c cc own nL) (hK : va_K D vC (tyC cI cZ cT) s) (hw : fw D A H0 (wC ad cI cZ cT v u) H locs) (hdg : decode cc pc = .ok (.iaload, 1)) (h : k_gd (inb i 5) K = some z) (kk : K = some z → W p l e R s m args below meth c H locs cells slots Q (F0 m (pc + 1) ls (.int (u.2 4 i.toNatClampNeg) :: rest))) : W p l e R s m args below meth c H locs cells slots Q (F0 m pc ls (.int i :: .ref (ad 12) :: rest)) := va_iald hC.1 hC.2.1 hK hw.1 12 0 rfl rfl (inb_vp (k_gd_some h).1) hdg (kk (k_gd_some h).2)
theorem as_C_12 {K : ST → Option β} {x : Int32} {i : Int32} (hC : fx_C p s m args meth c cc own nL) (hK : va_K D vC (tyC cI cZ cT) s) (hw : fw D A H0 (wC ad cI cZ cT v u) H locs) (hdg : decode cc pc = .ok (.iastore, 1)) (h : k_gd (inb i 5) (k_let (rs u 4 i.toNatClampNeg x) K) = some z) (kk : ∀ (H1 : Heap) (locs1 : List Loc) (u1 : ST), K u1 = some z → fw D A H0 (wC ad cI cZ cT v u1) H1 locs1 → W p l e R s m args below meth c H1 locs1 cells slots Q (F0 m (pc + 1) ls rest)) : W p l e R s m args below meth c H locs cells slots Q (F0 m pc ls (.int x :: .int i :: .ref (ad 12) :: rest)) := va_iast hC.1 hC.2.1 hK hw.1 hw.2.1 hw.2.2 12 0 rfl rfl (inb_vp (k_gd_some h).1) hdg (fun H1 locs1 hP hD hS => kk H1 locs1 _ (k_gd_some h).2 ⟨hP, hD, hS⟩)
theorem ln_C_12 (hC : fx_C p s m args meth c cc own nL) (hK : va_K D vC (tyC cI cZ cT) s) (hw : fw D A H0 (wC ad cI cZ cT v u) H locs) (hdg : decode cc pc = .ok (.arraylength, 1)) (kk : W p l e R s m args below meth c H locs cells slots Q (F0 m (pc + 1) ls (.int 5 :: rest))) : W p l e R s m args below meth c H locs cells slots Q (F0 m pc ls (.ref (ad 12) :: rest)) := va_alen hC.1 hC.2.1 hK hw.1 12 0 rfl rfl rfl hdg kk
theorem gf_C_13_bytes (hC : fx_C p s m args meth c cc "PassedToken$Row" nL) (hK : va_K D vC (tyC cI cZ cT) s) (hw : fw D A H0 (wC ad cI cZ cT v u) H locs) (hdg : decode cc pc = .ok (.getfield 15, 3)) (kk : W p l e R s m args below meth c H locs cells slots Q (F0 m (pc + 3) ls (.ref (ad 14) :: rest))) : W p l e R s m args below meth c H locs cells slots Q (F0 m pc ls (.ref (ad 13) :: rest)) := va_get (D := D) (ci := 0) (v := .ref (ad 14)) (C := "PassedToken$Row") (T := F_Row) (N := 2) hC.1 hC.2.1 hC.2.2.2.2.1 in_Row hC.2.2.2.1 hK hw.1 13 rfl rfl 0 (by decide) (hC.2.2.2.2.1 _ kw_23) (fun _ h9 => h9) rfl hdg kk
theorem gf_C_13_count (hC : fx_C p s m args meth c cc "PassedToken$Row" nL) (hK : va_K D vC (tyC cI cZ cT) s) (hw : fw D A H0 (wC ad cI cZ cT v u) H locs) (hdg : decode cc pc = .ok (.getfield 9, 3)) (kk : W p l e R s m args below meth c H locs cells slots Q (F0 m (pc + 3) ls (.int (u.1 30) :: rest))) : W p l e R s m args below meth c H locs cells slots Q (F0 m pc ls (.ref (ad 13) :: rest)) := va_get (D := D) (ci := 0) (v := .int (u.1 30)) (C := "PassedToken$Row") (T := F_Row) (N := 2) hC.1 hC.2.1 hC.2.2.2.2.1 in_Row hC.2.2.2.1 hK hw.1 13 rfl rfl 1 (by decide) (hC.2.2.2.2.1 _ kw_24) (fun _ h9 => h9) rfl hdg kk
theorem pf_C_13_count {K : ST → Option β} {x : Int32} (hC : fx_C p s m args meth c cc "PassedToken$Row" nL) (hK : va_K D vC (tyC cI cZ cT) s) (hw : fw D A H0 (wC ad cI cZ cT v u) H locs) (hdg : decode cc pc = .ok (.putfield 9, 3)) (h : k_let (ss u 30 x) K = some z) (kk : ∀ (H1 : Heap) (locs1 : List Loc) (u1 : ST), K u1 = some z → fw D A H0 (wC ad cI cZ cT v u1) H1 locs1 → W p l e R s m args below meth c H1 locs1 cells slots Q (F0 m (pc + 3) ls rest)) : W p l e R s m args below meth c H locs cells slots Q (F0 m pc ls (.int x :: .ref (ad 13) :: rest)) := va_put (D := D) (ci := 0) (v := .int x) (ty := .int) (C := "PassedToken$Row") (T := F_Row) (N := 2) hC.1 hC.2.1 hC.2.2.2.2.1 in_Row t_Row t_Row_ok n_Row hC.2.2.2.1 hK hw.1 hw.2.1 hw.2.2 13 rfl rfl 1 (by decide) (hC.2.2.2.2.1 _ kw_24) (fun _ h9 => h9) rfl (by decide +kernel) rfl rfl (Nat.le_of_ble_eq_true rfl) hdg (fun H1 locs1 hP hD hS => kk H1 locs1 _ h ⟨hP, hD, hS⟩)
theorem al_C_14 {K : Option β} {i : Int32} (hC : fx_C p s m args meth c cc own nL) (hK : va_K D vC (tyC cI cZ cT) s) (hw : fw D A H0 (wC ad cI cZ cT v u) H locs) (hdg : decode cc pc = .ok (.iaload, 1)) (h : k_gd (inb i 40) K = some z) (kk : K = some z → W p l e R s m args below meth c H locs cells slots Q (F0 m (pc + 1) ls (.int (u.2 5 i.toNatClampNeg) :: rest))) : W p l e R s m args below meth c H locs cells slots Q (F0 m pc ls (.int i :: .ref (ad 14) :: rest)) := va_iald hC.1 hC.2.1 hK hw.1 14 0 rfl rfl (inb_vp (k_gd_some h).1) hdg (kk (k_gd_some h).2)
theorem as_C_14 {K : ST → Option β} {x : Int32} {i : Int32} (hC : fx_C p s m args meth c cc own nL) (hK : va_K D vC (tyC cI cZ cT) s) (hw : fw D A H0 (wC ad cI cZ cT v u) H locs) (hdg : decode cc pc = .ok (.iastore, 1)) (h : k_gd (inb i 40) (k_let (rs u 5 i.toNatClampNeg x) K) = some z) (kk : ∀ (H1 : Heap) (locs1 : List Loc) (u1 : ST), K u1 = some z → fw D A H0 (wC ad cI cZ cT v u1) H1 locs1 → W p l e R s m args below meth c H1 locs1 cells slots Q (F0 m (pc + 1) ls rest)) : W p l e R s m args below meth c H locs cells slots Q (F0 m pc ls (.int x :: .int i :: .ref (ad 14) :: rest)) := va_iast hC.1 hC.2.1 hK hw.1 hw.2.1 hw.2.2 14 0 rfl rfl (inb_vp (k_gd_some h).1) hdg (fun H1 locs1 hP hD hS => kk H1 locs1 _ (k_gd_some h).2 ⟨hP, hD, hS⟩)
theorem ln_C_14 (hC : fx_C p s m args meth c cc own nL) (hK : va_K D vC (tyC cI cZ cT) s) (hw : fw D A H0 (wC ad cI cZ cT v u) H locs) (hdg : decode cc pc = .ok (.arraylength, 1)) (kk : W p l e R s m args below meth c H locs cells slots Q (F0 m (pc + 1) ls (.int 40 :: rest))) : W p l e R s m args below meth c H locs cells slots Q (F0 m pc ls (.ref (ad 14) :: rest)) := va_alen hC.1 hC.2.1 hK hw.1 14 0 rfl rfl rfl hdg kk
theorem gf_C_15_bytes (hC : fx_C p s m args meth c cc "PassedToken$Row" nL) (hK : va_K D vC (tyC cI cZ cT) s) (hw : fw D A H0 (wC ad cI cZ cT v u) H locs) (hdg : decode cc pc = .ok (.getfield 15, 3)) (kk : W p l e R s m args below meth c H locs cells slots Q (F0 m (pc + 3) ls (.ref (ad 16) :: rest))) : W p l e R s m args below meth c H locs cells slots Q (F0 m pc ls (.ref (ad 15) :: rest)) := va_get (D := D) (ci := 0) (v := .ref (ad 16)) (C := "PassedToken$Row") (T := F_Row) (N := 2) hC.1 hC.2.1 hC.2.2.2.2.1 in_Row hC.2.2.2.1 hK hw.1 15 rfl rfl 0 (by decide) (hC.2.2.2.2.1 _ kw_23) (fun _ h9 => h9) rfl hdg kk
theorem gf_C_15_count (hC : fx_C p s m args meth c cc "PassedToken$Row" nL) (hK : va_K D vC (tyC cI cZ cT) s) (hw : fw D A H0 (wC ad cI cZ cT v u) H locs) (hdg : decode cc pc = .ok (.getfield 9, 3)) (kk : W p l e R s m args below meth c H locs cells slots Q (F0 m (pc + 3) ls (.int (u.1 31) :: rest))) : W p l e R s m args below meth c H locs cells slots Q (F0 m pc ls (.ref (ad 15) :: rest)) := va_get (D := D) (ci := 0) (v := .int (u.1 31)) (C := "PassedToken$Row") (T := F_Row) (N := 2) hC.1 hC.2.1 hC.2.2.2.2.1 in_Row hC.2.2.2.1 hK hw.1 15 rfl rfl 1 (by decide) (hC.2.2.2.2.1 _ kw_24) (fun _ h9 => h9) rfl hdg kk
theorem pf_C_15_count {K : ST → Option β} {x : Int32} (hC : fx_C p s m args meth c cc "PassedToken$Row" nL) (hK : va_K D vC (tyC cI cZ cT) s) (hw : fw D A H0 (wC ad cI cZ cT v u) H locs) (hdg : decode cc pc = .ok (.putfield 9, 3)) (h : k_let (ss u 31 x) K = some z) (kk : ∀ (H1 : Heap) (locs1 : List Loc) (u1 : ST), K u1 = some z → fw D A H0 (wC ad cI cZ cT v u1) H1 locs1 → W p l e R s m args below meth c H1 locs1 cells slots Q (F0 m (pc + 3) ls rest)) : W p l e R s m args below meth c H locs cells slots Q (F0 m pc ls (.int x :: .ref (ad 15) :: rest)) := va_put (D := D) (ci := 0) (v := .int x) (ty := .int) (C := "PassedToken$Row") (T := F_Row) (N := 2) hC.1 hC.2.1 hC.2.2.2.2.1 in_Row t_Row t_Row_ok n_Row hC.2.2.2.1 hK hw.1 hw.2.1 hw.2.2 15 rfl rfl 1 (by decide) (hC.2.2.2.2.1 _ kw_24) (fun _ h9 => h9) rfl (by decide +kernel) rfl rfl (Nat.le_of_ble_eq_true rfl) hdg (fun H1 locs1 hP hD hS => kk H1 locs1 _ h ⟨hP, hD, hS⟩)
theorem al_C_16 {K : Option β} {i : Int32} (hC : fx_C p s m args meth c cc own nL) (hK : va_K D vC (tyC cI cZ cT) s) (hw : fw D A H0 (wC ad cI cZ cT v u) H locs) (hdg : decode cc pc = .ok (.iaload, 1)) (h : k_gd (inb i 32) K = some z) (kk : K = some z → W p l e R s m args below meth c H locs cells slots Q (F0 m (pc + 1) ls (.int (u.2 6 i.toNatClampNeg) :: rest))) : W p l e R s m args below meth c H locs cells slots Q (F0 m pc ls (.int i :: .ref (ad 16) :: rest)) := va_iald hC.1 hC.2.1 hK hw.1 16 0 rfl rfl (inb_vp (k_gd_some h).1) hdg (kk (k_gd_some h).2)
theorem as_C_16 {K : ST → Option β} {x : Int32} {i : Int32} (hC : fx_C p s m args meth c cc own nL) (hK : va_K D vC (tyC cI cZ cT) s) (hw : fw D A H0 (wC ad cI cZ cT v u) H locs) (hdg : decode cc pc = .ok (.iastore, 1)) (h : k_gd (inb i 32) (k_let (rs u 6 i.toNatClampNeg x) K) = some z) (kk : ∀ (H1 : Heap) (locs1 : List Loc) (u1 : ST), K u1 = some z → fw D A H0 (wC ad cI cZ cT v u1) H1 locs1 → W p l e R s m args below meth c H1 locs1 cells slots Q (F0 m (pc + 1) ls rest)) : W p l e R s m args below meth c H locs cells slots Q (F0 m pc ls (.int x :: .int i :: .ref (ad 16) :: rest)) := va_iast hC.1 hC.2.1 hK hw.1 hw.2.1 hw.2.2 16 0 rfl rfl (inb_vp (k_gd_some h).1) hdg (fun H1 locs1 hP hD hS => kk H1 locs1 _ (k_gd_some h).2 ⟨hP, hD, hS⟩)
theorem ln_C_16 (hC : fx_C p s m args meth c cc own nL) (hK : va_K D vC (tyC cI cZ cT) s) (hw : fw D A H0 (wC ad cI cZ cT v u) H locs) (hdg : decode cc pc = .ok (.arraylength, 1)) (kk : W p l e R s m args below meth c H locs cells slots Q (F0 m (pc + 1) ls (.int 32 :: rest))) : W p l e R s m args below meth c H locs cells slots Q (F0 m pc ls (.ref (ad 16) :: rest)) := va_alen hC.1 hC.2.1 hK hw.1 16 0 rfl rfl rfl hdg kk
theorem ln_C_17 (hC : fx_C p s m args meth c cc own nL) (hK : va_K D vC (tyC cI cZ cT) s) (hw : fw D A H0 (wC ad cI cZ cT v u) H locs) (hdg : decode cc pc = .ok (.arraylength, 1)) (kk : W p l e R s m args below meth c H locs cells slots Q (F0 m (pc + 1) ls (.int 4 :: rest))) : W p l e R s m args below meth c H locs cells slots Q (F0 m pc ls (.ref (ad 17) :: rest)) := va_alen hC.1 hC.2.1 hK hw.1 17 2 rfl rfl rfl hdg kk
theorem al_C_17 {K : Option β} {i : Int32} (hC : fx_C p s m args meth c cc own nL) (hK : va_K D vC (tyC cI cZ cT) s) (hw : fw D A H0 (wC ad cI cZ cT v u) H locs) (hdg : decode cc pc = .ok (.aaload, 1)) (h : k_gd (inb i 4) K = some z) (kk : inb i 4 → K = some z → W p l e R s m args below meth c H locs cells slots Q (F0 m (pc + 1) ls (.ref (ad (18 + 3 * i.toNatClampNeg)) :: rest))) : W p l e R s m args below meth c H locs cells slots Q (F0 m pc ls (.int i :: .ref (ad 17) :: rest)) := by
  obtain ⟨h1, h2⟩ := k_gd_some h
  refine va_aldq hC.1 hC.2.1 hK hw.1 17 2 rfl rfl (inb_vp h1) hdg ?_
  rw [show va_rf (tf ad i.toNatClampNeg) = .ref (ad (18 + 3 * i.toNatClampNeg)) by unfold tf; rw [if_pos h1.2]; rfl]
  exact kk h1 h2
theorem gf_C_18_reference (hC : fx_C p s m args meth c cc "PassedToken$Thing" nL) (hK : va_K D vC (tyC cI cZ cT) s) (hw : fw D A H0 (wC ad cI cZ cT v u) H locs) (hdg : decode cc pc = .ok (.getfield 20, 3)) (kk : W p l e R s m args below meth c H locs cells slots Q (F0 m (pc + 3) ls (.int (rfT 0) :: rest))) : W p l e R s m args below meth c H locs cells slots Q (F0 m pc ls (.ref (ad 18) :: rest)) := va_get (D := D) (ci := 1) (v := .int (rfT 0)) (C := "PassedToken$Thing") (T := F_Thing) (N := 4) hC.1 hC.2.1 hC.2.2.2.2.1 in_Thing hC.2.2.2.1 hK hw.1 18 rfl rfl 0 (by decide) (hC.2.2.2.2.1 _ kw_47) (fun _ h9 => h9) rfl hdg kk
theorem gf_C_18_binary (hC : fx_C p s m args meth c cc "PassedToken$Thing" nL) (hK : va_K D vC (tyC cI cZ cT) s) (hw : fw D A H0 (wC ad cI cZ cT v u) H locs) (hdg : decode cc pc = .ok (.getfield 24, 3)) (kk : W p l e R s m args below meth c H locs cells slots Q (F0 m (pc + 3) ls (.int (bnT 0) :: rest))) : W p l e R s m args below meth c H locs cells slots Q (F0 m pc ls (.ref (ad 18) :: rest)) := va_get (D := D) (ci := 1) (v := .int (bnT 0)) (C := "PassedToken$Thing") (T := F_Thing) (N := 4) hC.1 hC.2.1 hC.2.2.2.2.1 in_Thing hC.2.2.2.1 hK hw.1 18 rfl rfl 1 (by decide) (hC.2.2.2.2.1 _ kw_48) (fun _ h9 => h9) rfl hdg kk
theorem gf_C_18_values (hC : fx_C p s m args meth c cc "PassedToken$Thing" nL) (hK : va_K D vC (tyC cI cZ cT) s) (hw : fw D A H0 (wC ad cI cZ cT v u) H locs) (hdg : decode cc pc = .ok (.getfield 9, 3)) (kk : W p l e R s m args below meth c H locs cells slots Q (F0 m (pc + 3) ls (.ref (ad 19) :: rest))) : W p l e R s m args below meth c H locs cells slots Q (F0 m pc ls (.ref (ad 18) :: rest)) := va_get (D := D) (ci := 1) (v := .ref (ad 19)) (C := "PassedToken$Thing") (T := F_Thing) (N := 4) hC.1 hC.2.1 hC.2.2.2.2.1 in_Thing hC.2.2.2.1 hK hw.1 18 rfl rfl 2 (by decide) (hC.2.2.2.2.1 _ kw_49) (fun _ h9 => h9) rfl hdg kk
theorem gf_C_18_given (hC : fx_C p s m args meth c cc "PassedToken$Thing" nL) (hK : va_K D vC (tyC cI cZ cT) s) (hw : fw D A H0 (wC ad cI cZ cT v u) H locs) (hdg : decode cc pc = .ok (.getfield 15, 3)) (kk : W p l e R s m args below meth c H locs cells slots Q (F0 m (pc + 3) ls (.ref (ad 20) :: rest))) : W p l e R s m args below meth c H locs cells slots Q (F0 m pc ls (.ref (ad 18) :: rest)) := va_get (D := D) (ci := 1) (v := .ref (ad 20)) (C := "PassedToken$Thing") (T := F_Thing) (N := 4) hC.1 hC.2.1 hC.2.2.2.2.1 in_Thing hC.2.2.2.1 hK hw.1 18 rfl rfl 3 (by decide) (hC.2.2.2.2.1 _ kw_50) (fun _ h9 => h9) rfl hdg kk
theorem al_C_19 {K : Option β} {i : Int32} (hC : fx_C p s m args meth c cc own nL) (hK : va_K D vC (tyC cI cZ cT) s) (hw : fw D A H0 (wC ad cI cZ cT v u) H locs) (hdg : decode cc pc = .ok (.iaload, 1)) (h : k_gd (inb i 17) K = some z) (kk : K = some z → W p l e R s m args below meth c H locs cells slots Q (F0 m (pc + 1) ls (.int (u.2 7 i.toNatClampNeg) :: rest))) : W p l e R s m args below meth c H locs cells slots Q (F0 m pc ls (.int i :: .ref (ad 19) :: rest)) := va_iald hC.1 hC.2.1 hK hw.1 19 0 rfl rfl (inb_vp (k_gd_some h).1) hdg (kk (k_gd_some h).2)
theorem as_C_19 {K : ST → Option β} {x : Int32} {i : Int32} (hC : fx_C p s m args meth c cc own nL) (hK : va_K D vC (tyC cI cZ cT) s) (hw : fw D A H0 (wC ad cI cZ cT v u) H locs) (hdg : decode cc pc = .ok (.iastore, 1)) (h : k_gd (inb i 17) (k_let (rs u 7 i.toNatClampNeg x) K) = some z) (kk : ∀ (H1 : Heap) (locs1 : List Loc) (u1 : ST), K u1 = some z → fw D A H0 (wC ad cI cZ cT v u1) H1 locs1 → W p l e R s m args below meth c H1 locs1 cells slots Q (F0 m (pc + 1) ls rest)) : W p l e R s m args below meth c H locs cells slots Q (F0 m pc ls (.int x :: .int i :: .ref (ad 19) :: rest)) := va_iast hC.1 hC.2.1 hK hw.1 hw.2.1 hw.2.2 19 0 rfl rfl (inb_vp (k_gd_some h).1) hdg (fun H1 locs1 hP hD hS => kk H1 locs1 _ (k_gd_some h).2 ⟨hP, hD, hS⟩)
theorem ln_C_19 (hC : fx_C p s m args meth c cc own nL) (hK : va_K D vC (tyC cI cZ cT) s) (hw : fw D A H0 (wC ad cI cZ cT v u) H locs) (hdg : decode cc pc = .ok (.arraylength, 1)) (kk : W p l e R s m args below meth c H locs cells slots Q (F0 m (pc + 1) ls (.int 17 :: rest))) : W p l e R s m args below meth c H locs cells slots Q (F0 m pc ls (.ref (ad 19) :: rest)) := va_alen hC.1 hC.2.1 hK hw.1 19 0 rfl rfl rfl hdg kk
theorem al_C_20 {K : Option β} {i : Int32} (hC : fx_C p s m args meth c cc own nL) (hK : va_K D vC (tyC cI cZ cT) s) (hw : fw D A H0 (wC ad cI cZ cT v u) H locs) (hdg : decode cc pc = .ok (.baload, 1)) (h : k_gd (inb i 17) K = some z) (kk : K = some z → W p l e R s m args below meth c H locs cells slots Q (F0 m (pc + 1) ls (.int (u.2 8 i.toNatClampNeg) :: rest))) : W p l e R s m args below meth c H locs cells slots Q (F0 m pc ls (.int i :: .ref (ad 20) :: rest)) := va_zald hC.1 hC.2.1 hK hw.1 20 1 rfl rfl (inb_vp (k_gd_some h).1) hdg (kk (k_gd_some h).2)
theorem as_C_20 {K : ST → Option β} {x : Int32} {i : Int32} (hC : fx_C p s m args meth c cc own nL) (hK : va_K D vC (tyC cI cZ cT) s) (hw : fw D A H0 (wC ad cI cZ cT v u) H locs) (hv : isz x) (hdg : decode cc pc = .ok (.bastore, 1)) (h : k_gd (inb i 17) (k_let (rs u 8 i.toNatClampNeg x) K) = some z) (kk : ∀ (H1 : Heap) (locs1 : List Loc) (u1 : ST), K u1 = some z → fw D A H0 (wC ad cI cZ cT v u1) H1 locs1 → W p l e R s m args below meth c H1 locs1 cells slots Q (F0 m (pc + 1) ls rest)) : W p l e R s m args below meth c H locs cells slots Q (F0 m pc ls (.int x :: .int i :: .ref (ad 20) :: rest)) := by
  have hn := isz_vp hv
  refine va_zast hC.1 hC.2.1 hK hw.1 hw.2.1 hw.2.2 20 1 rfl rfl (inb_vp (k_gd_some h).1) hdg (fun H1 locs1 hP hD hS => ?_)
  rw [hn] at hP hD
  exact kk H1 locs1 _ (k_gd_some h).2 ⟨hP, hD, hS⟩
theorem ln_C_20 (hC : fx_C p s m args meth c cc own nL) (hK : va_K D vC (tyC cI cZ cT) s) (hw : fw D A H0 (wC ad cI cZ cT v u) H locs) (hdg : decode cc pc = .ok (.arraylength, 1)) (kk : W p l e R s m args below meth c H locs cells slots Q (F0 m (pc + 1) ls (.int 17 :: rest))) : W p l e R s m args below meth c H locs cells slots Q (F0 m pc ls (.ref (ad 20) :: rest)) := va_alen hC.1 hC.2.1 hK hw.1 20 1 rfl rfl rfl hdg kk
theorem gf_C_21_reference (hC : fx_C p s m args meth c cc "PassedToken$Thing" nL) (hK : va_K D vC (tyC cI cZ cT) s) (hw : fw D A H0 (wC ad cI cZ cT v u) H locs) (hdg : decode cc pc = .ok (.getfield 20, 3)) (kk : W p l e R s m args below meth c H locs cells slots Q (F0 m (pc + 3) ls (.int (rfT 1) :: rest))) : W p l e R s m args below meth c H locs cells slots Q (F0 m pc ls (.ref (ad 21) :: rest)) := va_get (D := D) (ci := 1) (v := .int (rfT 1)) (C := "PassedToken$Thing") (T := F_Thing) (N := 4) hC.1 hC.2.1 hC.2.2.2.2.1 in_Thing hC.2.2.2.1 hK hw.1 21 rfl rfl 0 (by decide) (hC.2.2.2.2.1 _ kw_47) (fun _ h9 => h9) rfl hdg kk
theorem gf_C_21_binary (hC : fx_C p s m args meth c cc "PassedToken$Thing" nL) (hK : va_K D vC (tyC cI cZ cT) s) (hw : fw D A H0 (wC ad cI cZ cT v u) H locs) (hdg : decode cc pc = .ok (.getfield 24, 3)) (kk : W p l e R s m args below meth c H locs cells slots Q (F0 m (pc + 3) ls (.int (bnT 1) :: rest))) : W p l e R s m args below meth c H locs cells slots Q (F0 m pc ls (.ref (ad 21) :: rest)) := va_get (D := D) (ci := 1) (v := .int (bnT 1)) (C := "PassedToken$Thing") (T := F_Thing) (N := 4) hC.1 hC.2.1 hC.2.2.2.2.1 in_Thing hC.2.2.2.1 hK hw.1 21 rfl rfl 1 (by decide) (hC.2.2.2.2.1 _ kw_48) (fun _ h9 => h9) rfl hdg kk
theorem gf_C_21_values (hC : fx_C p s m args meth c cc "PassedToken$Thing" nL) (hK : va_K D vC (tyC cI cZ cT) s) (hw : fw D A H0 (wC ad cI cZ cT v u) H locs) (hdg : decode cc pc = .ok (.getfield 9, 3)) (kk : W p l e R s m args below meth c H locs cells slots Q (F0 m (pc + 3) ls (.ref (ad 22) :: rest))) : W p l e R s m args below meth c H locs cells slots Q (F0 m pc ls (.ref (ad 21) :: rest)) := va_get (D := D) (ci := 1) (v := .ref (ad 22)) (C := "PassedToken$Thing") (T := F_Thing) (N := 4) hC.1 hC.2.1 hC.2.2.2.2.1 in_Thing hC.2.2.2.1 hK hw.1 21 rfl rfl 2 (by decide) (hC.2.2.2.2.1 _ kw_49) (fun _ h9 => h9) rfl hdg kk
theorem gf_C_21_given (hC : fx_C p s m args meth c cc "PassedToken$Thing" nL) (hK : va_K D vC (tyC cI cZ cT) s) (hw : fw D A H0 (wC ad cI cZ cT v u) H locs) (hdg : decode cc pc = .ok (.getfield 15, 3)) (kk : W p l e R s m args below meth c H locs cells slots Q (F0 m (pc + 3) ls (.ref (ad 23) :: rest))) : W p l e R s m args below meth c H locs cells slots Q (F0 m pc ls (.ref (ad 21) :: rest)) := va_get (D := D) (ci := 1) (v := .ref (ad 23)) (C := "PassedToken$Thing") (T := F_Thing) (N := 4) hC.1 hC.2.1 hC.2.2.2.2.1 in_Thing hC.2.2.2.1 hK hw.1 21 rfl rfl 3 (by decide) (hC.2.2.2.2.1 _ kw_50) (fun _ h9 => h9) rfl hdg kk
theorem al_C_22 {K : Option β} {i : Int32} (hC : fx_C p s m args meth c cc own nL) (hK : va_K D vC (tyC cI cZ cT) s) (hw : fw D A H0 (wC ad cI cZ cT v u) H locs) (hdg : decode cc pc = .ok (.iaload, 1)) (h : k_gd (inb i 17) K = some z) (kk : K = some z → W p l e R s m args below meth c H locs cells slots Q (F0 m (pc + 1) ls (.int (u.2 9 i.toNatClampNeg) :: rest))) : W p l e R s m args below meth c H locs cells slots Q (F0 m pc ls (.int i :: .ref (ad 22) :: rest)) := va_iald hC.1 hC.2.1 hK hw.1 22 0 rfl rfl (inb_vp (k_gd_some h).1) hdg (kk (k_gd_some h).2)
theorem as_C_22 {K : ST → Option β} {x : Int32} {i : Int32} (hC : fx_C p s m args meth c cc own nL) (hK : va_K D vC (tyC cI cZ cT) s) (hw : fw D A H0 (wC ad cI cZ cT v u) H locs) (hdg : decode cc pc = .ok (.iastore, 1)) (h : k_gd (inb i 17) (k_let (rs u 9 i.toNatClampNeg x) K) = some z) (kk : ∀ (H1 : Heap) (locs1 : List Loc) (u1 : ST), K u1 = some z → fw D A H0 (wC ad cI cZ cT v u1) H1 locs1 → W p l e R s m args below meth c H1 locs1 cells slots Q (F0 m (pc + 1) ls rest)) : W p l e R s m args below meth c H locs cells slots Q (F0 m pc ls (.int x :: .int i :: .ref (ad 22) :: rest)) := va_iast hC.1 hC.2.1 hK hw.1 hw.2.1 hw.2.2 22 0 rfl rfl (inb_vp (k_gd_some h).1) hdg (fun H1 locs1 hP hD hS => kk H1 locs1 _ (k_gd_some h).2 ⟨hP, hD, hS⟩)
theorem ln_C_22 (hC : fx_C p s m args meth c cc own nL) (hK : va_K D vC (tyC cI cZ cT) s) (hw : fw D A H0 (wC ad cI cZ cT v u) H locs) (hdg : decode cc pc = .ok (.arraylength, 1)) (kk : W p l e R s m args below meth c H locs cells slots Q (F0 m (pc + 1) ls (.int 17 :: rest))) : W p l e R s m args below meth c H locs cells slots Q (F0 m pc ls (.ref (ad 22) :: rest)) := va_alen hC.1 hC.2.1 hK hw.1 22 0 rfl rfl rfl hdg kk
theorem al_C_23 {K : Option β} {i : Int32} (hC : fx_C p s m args meth c cc own nL) (hK : va_K D vC (tyC cI cZ cT) s) (hw : fw D A H0 (wC ad cI cZ cT v u) H locs) (hdg : decode cc pc = .ok (.baload, 1)) (h : k_gd (inb i 17) K = some z) (kk : K = some z → W p l e R s m args below meth c H locs cells slots Q (F0 m (pc + 1) ls (.int (u.2 10 i.toNatClampNeg) :: rest))) : W p l e R s m args below meth c H locs cells slots Q (F0 m pc ls (.int i :: .ref (ad 23) :: rest)) := va_zald hC.1 hC.2.1 hK hw.1 23 1 rfl rfl (inb_vp (k_gd_some h).1) hdg (kk (k_gd_some h).2)
theorem as_C_23 {K : ST → Option β} {x : Int32} {i : Int32} (hC : fx_C p s m args meth c cc own nL) (hK : va_K D vC (tyC cI cZ cT) s) (hw : fw D A H0 (wC ad cI cZ cT v u) H locs) (hv : isz x) (hdg : decode cc pc = .ok (.bastore, 1)) (h : k_gd (inb i 17) (k_let (rs u 10 i.toNatClampNeg x) K) = some z) (kk : ∀ (H1 : Heap) (locs1 : List Loc) (u1 : ST), K u1 = some z → fw D A H0 (wC ad cI cZ cT v u1) H1 locs1 → W p l e R s m args below meth c H1 locs1 cells slots Q (F0 m (pc + 1) ls rest)) : W p l e R s m args below meth c H locs cells slots Q (F0 m pc ls (.int x :: .int i :: .ref (ad 23) :: rest)) := by
  have hn := isz_vp hv
  refine va_zast hC.1 hC.2.1 hK hw.1 hw.2.1 hw.2.2 23 1 rfl rfl (inb_vp (k_gd_some h).1) hdg (fun H1 locs1 hP hD hS => ?_)
  rw [hn] at hP hD
  exact kk H1 locs1 _ (k_gd_some h).2 ⟨hP, hD, hS⟩
theorem ln_C_23 (hC : fx_C p s m args meth c cc own nL) (hK : va_K D vC (tyC cI cZ cT) s) (hw : fw D A H0 (wC ad cI cZ cT v u) H locs) (hdg : decode cc pc = .ok (.arraylength, 1)) (kk : W p l e R s m args below meth c H locs cells slots Q (F0 m (pc + 1) ls (.int 17 :: rest))) : W p l e R s m args below meth c H locs cells slots Q (F0 m pc ls (.ref (ad 23) :: rest)) := va_alen hC.1 hC.2.1 hK hw.1 23 1 rfl rfl rfl hdg kk
theorem gf_C_24_reference (hC : fx_C p s m args meth c cc "PassedToken$Thing" nL) (hK : va_K D vC (tyC cI cZ cT) s) (hw : fw D A H0 (wC ad cI cZ cT v u) H locs) (hdg : decode cc pc = .ok (.getfield 20, 3)) (kk : W p l e R s m args below meth c H locs cells slots Q (F0 m (pc + 3) ls (.int (rfT 2) :: rest))) : W p l e R s m args below meth c H locs cells slots Q (F0 m pc ls (.ref (ad 24) :: rest)) := va_get (D := D) (ci := 1) (v := .int (rfT 2)) (C := "PassedToken$Thing") (T := F_Thing) (N := 4) hC.1 hC.2.1 hC.2.2.2.2.1 in_Thing hC.2.2.2.1 hK hw.1 24 rfl rfl 0 (by decide) (hC.2.2.2.2.1 _ kw_47) (fun _ h9 => h9) rfl hdg kk
theorem gf_C_24_binary (hC : fx_C p s m args meth c cc "PassedToken$Thing" nL) (hK : va_K D vC (tyC cI cZ cT) s) (hw : fw D A H0 (wC ad cI cZ cT v u) H locs) (hdg : decode cc pc = .ok (.getfield 24, 3)) (kk : W p l e R s m args below meth c H locs cells slots Q (F0 m (pc + 3) ls (.int (bnT 2) :: rest))) : W p l e R s m args below meth c H locs cells slots Q (F0 m pc ls (.ref (ad 24) :: rest)) := va_get (D := D) (ci := 1) (v := .int (bnT 2)) (C := "PassedToken$Thing") (T := F_Thing) (N := 4) hC.1 hC.2.1 hC.2.2.2.2.1 in_Thing hC.2.2.2.1 hK hw.1 24 rfl rfl 1 (by decide) (hC.2.2.2.2.1 _ kw_48) (fun _ h9 => h9) rfl hdg kk
theorem gf_C_24_values (hC : fx_C p s m args meth c cc "PassedToken$Thing" nL) (hK : va_K D vC (tyC cI cZ cT) s) (hw : fw D A H0 (wC ad cI cZ cT v u) H locs) (hdg : decode cc pc = .ok (.getfield 9, 3)) (kk : W p l e R s m args below meth c H locs cells slots Q (F0 m (pc + 3) ls (.ref (ad 25) :: rest))) : W p l e R s m args below meth c H locs cells slots Q (F0 m pc ls (.ref (ad 24) :: rest)) := va_get (D := D) (ci := 1) (v := .ref (ad 25)) (C := "PassedToken$Thing") (T := F_Thing) (N := 4) hC.1 hC.2.1 hC.2.2.2.2.1 in_Thing hC.2.2.2.1 hK hw.1 24 rfl rfl 2 (by decide) (hC.2.2.2.2.1 _ kw_49) (fun _ h9 => h9) rfl hdg kk
theorem gf_C_24_given (hC : fx_C p s m args meth c cc "PassedToken$Thing" nL) (hK : va_K D vC (tyC cI cZ cT) s) (hw : fw D A H0 (wC ad cI cZ cT v u) H locs) (hdg : decode cc pc = .ok (.getfield 15, 3)) (kk : W p l e R s m args below meth c H locs cells slots Q (F0 m (pc + 3) ls (.ref (ad 26) :: rest))) : W p l e R s m args below meth c H locs cells slots Q (F0 m pc ls (.ref (ad 24) :: rest)) := va_get (D := D) (ci := 1) (v := .ref (ad 26)) (C := "PassedToken$Thing") (T := F_Thing) (N := 4) hC.1 hC.2.1 hC.2.2.2.2.1 in_Thing hC.2.2.2.1 hK hw.1 24 rfl rfl 3 (by decide) (hC.2.2.2.2.1 _ kw_50) (fun _ h9 => h9) rfl hdg kk
theorem al_C_25 {K : Option β} {i : Int32} (hC : fx_C p s m args meth c cc own nL) (hK : va_K D vC (tyC cI cZ cT) s) (hw : fw D A H0 (wC ad cI cZ cT v u) H locs) (hdg : decode cc pc = .ok (.iaload, 1)) (h : k_gd (inb i 17) K = some z) (kk : K = some z → W p l e R s m args below meth c H locs cells slots Q (F0 m (pc + 1) ls (.int (u.2 11 i.toNatClampNeg) :: rest))) : W p l e R s m args below meth c H locs cells slots Q (F0 m pc ls (.int i :: .ref (ad 25) :: rest)) := va_iald hC.1 hC.2.1 hK hw.1 25 0 rfl rfl (inb_vp (k_gd_some h).1) hdg (kk (k_gd_some h).2)
theorem as_C_25 {K : ST → Option β} {x : Int32} {i : Int32} (hC : fx_C p s m args meth c cc own nL) (hK : va_K D vC (tyC cI cZ cT) s) (hw : fw D A H0 (wC ad cI cZ cT v u) H locs) (hdg : decode cc pc = .ok (.iastore, 1)) (h : k_gd (inb i 17) (k_let (rs u 11 i.toNatClampNeg x) K) = some z) (kk : ∀ (H1 : Heap) (locs1 : List Loc) (u1 : ST), K u1 = some z → fw D A H0 (wC ad cI cZ cT v u1) H1 locs1 → W p l e R s m args below meth c H1 locs1 cells slots Q (F0 m (pc + 1) ls rest)) : W p l e R s m args below meth c H locs cells slots Q (F0 m pc ls (.int x :: .int i :: .ref (ad 25) :: rest)) := va_iast hC.1 hC.2.1 hK hw.1 hw.2.1 hw.2.2 25 0 rfl rfl (inb_vp (k_gd_some h).1) hdg (fun H1 locs1 hP hD hS => kk H1 locs1 _ (k_gd_some h).2 ⟨hP, hD, hS⟩)
theorem ln_C_25 (hC : fx_C p s m args meth c cc own nL) (hK : va_K D vC (tyC cI cZ cT) s) (hw : fw D A H0 (wC ad cI cZ cT v u) H locs) (hdg : decode cc pc = .ok (.arraylength, 1)) (kk : W p l e R s m args below meth c H locs cells slots Q (F0 m (pc + 1) ls (.int 17 :: rest))) : W p l e R s m args below meth c H locs cells slots Q (F0 m pc ls (.ref (ad 25) :: rest)) := va_alen hC.1 hC.2.1 hK hw.1 25 0 rfl rfl rfl hdg kk
theorem al_C_26 {K : Option β} {i : Int32} (hC : fx_C p s m args meth c cc own nL) (hK : va_K D vC (tyC cI cZ cT) s) (hw : fw D A H0 (wC ad cI cZ cT v u) H locs) (hdg : decode cc pc = .ok (.baload, 1)) (h : k_gd (inb i 17) K = some z) (kk : K = some z → W p l e R s m args below meth c H locs cells slots Q (F0 m (pc + 1) ls (.int (u.2 12 i.toNatClampNeg) :: rest))) : W p l e R s m args below meth c H locs cells slots Q (F0 m pc ls (.int i :: .ref (ad 26) :: rest)) := va_zald hC.1 hC.2.1 hK hw.1 26 1 rfl rfl (inb_vp (k_gd_some h).1) hdg (kk (k_gd_some h).2)
theorem as_C_26 {K : ST → Option β} {x : Int32} {i : Int32} (hC : fx_C p s m args meth c cc own nL) (hK : va_K D vC (tyC cI cZ cT) s) (hw : fw D A H0 (wC ad cI cZ cT v u) H locs) (hv : isz x) (hdg : decode cc pc = .ok (.bastore, 1)) (h : k_gd (inb i 17) (k_let (rs u 12 i.toNatClampNeg x) K) = some z) (kk : ∀ (H1 : Heap) (locs1 : List Loc) (u1 : ST), K u1 = some z → fw D A H0 (wC ad cI cZ cT v u1) H1 locs1 → W p l e R s m args below meth c H1 locs1 cells slots Q (F0 m (pc + 1) ls rest)) : W p l e R s m args below meth c H locs cells slots Q (F0 m pc ls (.int x :: .int i :: .ref (ad 26) :: rest)) := by
  have hn := isz_vp hv
  refine va_zast hC.1 hC.2.1 hK hw.1 hw.2.1 hw.2.2 26 1 rfl rfl (inb_vp (k_gd_some h).1) hdg (fun H1 locs1 hP hD hS => ?_)
  rw [hn] at hP hD
  exact kk H1 locs1 _ (k_gd_some h).2 ⟨hP, hD, hS⟩
theorem ln_C_26 (hC : fx_C p s m args meth c cc own nL) (hK : va_K D vC (tyC cI cZ cT) s) (hw : fw D A H0 (wC ad cI cZ cT v u) H locs) (hdg : decode cc pc = .ok (.arraylength, 1)) (kk : W p l e R s m args below meth c H locs cells slots Q (F0 m (pc + 1) ls (.int 17 :: rest))) : W p l e R s m args below meth c H locs cells slots Q (F0 m pc ls (.ref (ad 26) :: rest)) := va_alen hC.1 hC.2.1 hK hw.1 26 1 rfl rfl rfl hdg kk
theorem gf_C_27_reference (hC : fx_C p s m args meth c cc "PassedToken$Thing" nL) (hK : va_K D vC (tyC cI cZ cT) s) (hw : fw D A H0 (wC ad cI cZ cT v u) H locs) (hdg : decode cc pc = .ok (.getfield 20, 3)) (kk : W p l e R s m args below meth c H locs cells slots Q (F0 m (pc + 3) ls (.int (rfT 3) :: rest))) : W p l e R s m args below meth c H locs cells slots Q (F0 m pc ls (.ref (ad 27) :: rest)) := va_get (D := D) (ci := 1) (v := .int (rfT 3)) (C := "PassedToken$Thing") (T := F_Thing) (N := 4) hC.1 hC.2.1 hC.2.2.2.2.1 in_Thing hC.2.2.2.1 hK hw.1 27 rfl rfl 0 (by decide) (hC.2.2.2.2.1 _ kw_47) (fun _ h9 => h9) rfl hdg kk
theorem gf_C_27_binary (hC : fx_C p s m args meth c cc "PassedToken$Thing" nL) (hK : va_K D vC (tyC cI cZ cT) s) (hw : fw D A H0 (wC ad cI cZ cT v u) H locs) (hdg : decode cc pc = .ok (.getfield 24, 3)) (kk : W p l e R s m args below meth c H locs cells slots Q (F0 m (pc + 3) ls (.int (bnT 3) :: rest))) : W p l e R s m args below meth c H locs cells slots Q (F0 m pc ls (.ref (ad 27) :: rest)) := va_get (D := D) (ci := 1) (v := .int (bnT 3)) (C := "PassedToken$Thing") (T := F_Thing) (N := 4) hC.1 hC.2.1 hC.2.2.2.2.1 in_Thing hC.2.2.2.1 hK hw.1 27 rfl rfl 1 (by decide) (hC.2.2.2.2.1 _ kw_48) (fun _ h9 => h9) rfl hdg kk
theorem gf_C_27_values (hC : fx_C p s m args meth c cc "PassedToken$Thing" nL) (hK : va_K D vC (tyC cI cZ cT) s) (hw : fw D A H0 (wC ad cI cZ cT v u) H locs) (hdg : decode cc pc = .ok (.getfield 9, 3)) (kk : W p l e R s m args below meth c H locs cells slots Q (F0 m (pc + 3) ls (.ref (ad 28) :: rest))) : W p l e R s m args below meth c H locs cells slots Q (F0 m pc ls (.ref (ad 27) :: rest)) := va_get (D := D) (ci := 1) (v := .ref (ad 28)) (C := "PassedToken$Thing") (T := F_Thing) (N := 4) hC.1 hC.2.1 hC.2.2.2.2.1 in_Thing hC.2.2.2.1 hK hw.1 27 rfl rfl 2 (by decide) (hC.2.2.2.2.1 _ kw_49) (fun _ h9 => h9) rfl hdg kk
theorem gf_C_27_given (hC : fx_C p s m args meth c cc "PassedToken$Thing" nL) (hK : va_K D vC (tyC cI cZ cT) s) (hw : fw D A H0 (wC ad cI cZ cT v u) H locs) (hdg : decode cc pc = .ok (.getfield 15, 3)) (kk : W p l e R s m args below meth c H locs cells slots Q (F0 m (pc + 3) ls (.ref (ad 29) :: rest))) : W p l e R s m args below meth c H locs cells slots Q (F0 m pc ls (.ref (ad 27) :: rest)) := va_get (D := D) (ci := 1) (v := .ref (ad 29)) (C := "PassedToken$Thing") (T := F_Thing) (N := 4) hC.1 hC.2.1 hC.2.2.2.2.1 in_Thing hC.2.2.2.1 hK hw.1 27 rfl rfl 3 (by decide) (hC.2.2.2.2.1 _ kw_50) (fun _ h9 => h9) rfl hdg kk
theorem al_C_28 {K : Option β} {i : Int32} (hC : fx_C p s m args meth c cc own nL) (hK : va_K D vC (tyC cI cZ cT) s) (hw : fw D A H0 (wC ad cI cZ cT v u) H locs) (hdg : decode cc pc = .ok (.iaload, 1)) (h : k_gd (inb i 17) K = some z) (kk : K = some z → W p l e R s m args below meth c H locs cells slots Q (F0 m (pc + 1) ls (.int (u.2 13 i.toNatClampNeg) :: rest))) : W p l e R s m args below meth c H locs cells slots Q (F0 m pc ls (.int i :: .ref (ad 28) :: rest)) := va_iald hC.1 hC.2.1 hK hw.1 28 0 rfl rfl (inb_vp (k_gd_some h).1) hdg (kk (k_gd_some h).2)
theorem as_C_28 {K : ST → Option β} {x : Int32} {i : Int32} (hC : fx_C p s m args meth c cc own nL) (hK : va_K D vC (tyC cI cZ cT) s) (hw : fw D A H0 (wC ad cI cZ cT v u) H locs) (hdg : decode cc pc = .ok (.iastore, 1)) (h : k_gd (inb i 17) (k_let (rs u 13 i.toNatClampNeg x) K) = some z) (kk : ∀ (H1 : Heap) (locs1 : List Loc) (u1 : ST), K u1 = some z → fw D A H0 (wC ad cI cZ cT v u1) H1 locs1 → W p l e R s m args below meth c H1 locs1 cells slots Q (F0 m (pc + 1) ls rest)) : W p l e R s m args below meth c H locs cells slots Q (F0 m pc ls (.int x :: .int i :: .ref (ad 28) :: rest)) := va_iast hC.1 hC.2.1 hK hw.1 hw.2.1 hw.2.2 28 0 rfl rfl (inb_vp (k_gd_some h).1) hdg (fun H1 locs1 hP hD hS => kk H1 locs1 _ (k_gd_some h).2 ⟨hP, hD, hS⟩)
theorem ln_C_28 (hC : fx_C p s m args meth c cc own nL) (hK : va_K D vC (tyC cI cZ cT) s) (hw : fw D A H0 (wC ad cI cZ cT v u) H locs) (hdg : decode cc pc = .ok (.arraylength, 1)) (kk : W p l e R s m args below meth c H locs cells slots Q (F0 m (pc + 1) ls (.int 17 :: rest))) : W p l e R s m args below meth c H locs cells slots Q (F0 m pc ls (.ref (ad 28) :: rest)) := va_alen hC.1 hC.2.1 hK hw.1 28 0 rfl rfl rfl hdg kk
theorem al_C_29 {K : Option β} {i : Int32} (hC : fx_C p s m args meth c cc own nL) (hK : va_K D vC (tyC cI cZ cT) s) (hw : fw D A H0 (wC ad cI cZ cT v u) H locs) (hdg : decode cc pc = .ok (.baload, 1)) (h : k_gd (inb i 17) K = some z) (kk : K = some z → W p l e R s m args below meth c H locs cells slots Q (F0 m (pc + 1) ls (.int (u.2 14 i.toNatClampNeg) :: rest))) : W p l e R s m args below meth c H locs cells slots Q (F0 m pc ls (.int i :: .ref (ad 29) :: rest)) := va_zald hC.1 hC.2.1 hK hw.1 29 1 rfl rfl (inb_vp (k_gd_some h).1) hdg (kk (k_gd_some h).2)
theorem as_C_29 {K : ST → Option β} {x : Int32} {i : Int32} (hC : fx_C p s m args meth c cc own nL) (hK : va_K D vC (tyC cI cZ cT) s) (hw : fw D A H0 (wC ad cI cZ cT v u) H locs) (hv : isz x) (hdg : decode cc pc = .ok (.bastore, 1)) (h : k_gd (inb i 17) (k_let (rs u 14 i.toNatClampNeg x) K) = some z) (kk : ∀ (H1 : Heap) (locs1 : List Loc) (u1 : ST), K u1 = some z → fw D A H0 (wC ad cI cZ cT v u1) H1 locs1 → W p l e R s m args below meth c H1 locs1 cells slots Q (F0 m (pc + 1) ls rest)) : W p l e R s m args below meth c H locs cells slots Q (F0 m pc ls (.int x :: .int i :: .ref (ad 29) :: rest)) := by
  have hn := isz_vp hv
  refine va_zast hC.1 hC.2.1 hK hw.1 hw.2.1 hw.2.2 29 1 rfl rfl (inb_vp (k_gd_some h).1) hdg (fun H1 locs1 hP hD hS => ?_)
  rw [hn] at hP hD
  exact kk H1 locs1 _ (k_gd_some h).2 ⟨hP, hD, hS⟩
theorem ln_C_29 (hC : fx_C p s m args meth c cc own nL) (hK : va_K D vC (tyC cI cZ cT) s) (hw : fw D A H0 (wC ad cI cZ cT v u) H locs) (hdg : decode cc pc = .ok (.arraylength, 1)) (kk : W p l e R s m args below meth c H locs cells slots Q (F0 m (pc + 1) ls (.int 17 :: rest))) : W p l e R s m args below meth c H locs cells slots Q (F0 m pc ls (.ref (ad 29) :: rest)) := va_alen hC.1 hC.2.1 hK hw.1 29 1 rfl rfl rfl hdg kk
theorem gf_T_reference {j : Nat} (hj : j < 4) (hC : fx_C p s m args meth c cc "PassedToken$Thing" nL) (hK : va_K D vC (tyC cI cZ cT) s) (hw : fw D A H0 (wC ad cI cZ cT v u) H locs) (hdg : decode cc pc = .ok (.getfield 20, 3)) (kk : W p l e R s m args below meth c H locs cells slots Q (F0 m (pc + 3) ls (.int (rfT j) :: rest))) : W p l e R s m args below meth c H locs cells slots Q (F0 m pc ls (.ref (ad (18 + 3 * j)) :: rest)) := by
  rcases (show j = 0 ∨ j = 1 ∨ j = 2 ∨ j = 3 by omega) with rfl | rfl | rfl | rfl
  · exact gf_C_18_reference hC hK hw hdg kk
  · exact gf_C_21_reference hC hK hw hdg kk
  · exact gf_C_24_reference hC hK hw hdg kk
  · exact gf_C_27_reference hC hK hw hdg kk
theorem gf_T_binary {j : Nat} (hj : j < 4) (hC : fx_C p s m args meth c cc "PassedToken$Thing" nL) (hK : va_K D vC (tyC cI cZ cT) s) (hw : fw D A H0 (wC ad cI cZ cT v u) H locs) (hdg : decode cc pc = .ok (.getfield 24, 3)) (kk : W p l e R s m args below meth c H locs cells slots Q (F0 m (pc + 3) ls (.int (bnT j) :: rest))) : W p l e R s m args below meth c H locs cells slots Q (F0 m pc ls (.ref (ad (18 + 3 * j)) :: rest)) := by
  rcases (show j = 0 ∨ j = 1 ∨ j = 2 ∨ j = 3 by omega) with rfl | rfl | rfl | rfl
  · exact gf_C_18_binary hC hK hw hdg kk
  · exact gf_C_21_binary hC hK hw hdg kk
  · exact gf_C_24_binary hC hK hw hdg kk
  · exact gf_C_27_binary hC hK hw hdg kk
theorem gf_T_values {j : Nat} (hj : j < 4) (hC : fx_C p s m args meth c cc "PassedToken$Thing" nL) (hK : va_K D vC (tyC cI cZ cT) s) (hw : fw D A H0 (wC ad cI cZ cT v u) H locs) (hdg : decode cc pc = .ok (.getfield 9, 3)) (kk : W p l e R s m args below meth c H locs cells slots Q (F0 m (pc + 3) ls (.ref (ad (19 + 3 * j)) :: rest))) : W p l e R s m args below meth c H locs cells slots Q (F0 m pc ls (.ref (ad (18 + 3 * j)) :: rest)) := by
  rcases (show j = 0 ∨ j = 1 ∨ j = 2 ∨ j = 3 by omega) with rfl | rfl | rfl | rfl
  · exact gf_C_18_values hC hK hw hdg kk
  · exact gf_C_21_values hC hK hw hdg kk
  · exact gf_C_24_values hC hK hw hdg kk
  · exact gf_C_27_values hC hK hw hdg kk
theorem gf_T_given {j : Nat} (hj : j < 4) (hC : fx_C p s m args meth c cc "PassedToken$Thing" nL) (hK : va_K D vC (tyC cI cZ cT) s) (hw : fw D A H0 (wC ad cI cZ cT v u) H locs) (hdg : decode cc pc = .ok (.getfield 15, 3)) (kk : W p l e R s m args below meth c H locs cells slots Q (F0 m (pc + 3) ls (.ref (ad (20 + 3 * j)) :: rest))) : W p l e R s m args below meth c H locs cells slots Q (F0 m pc ls (.ref (ad (18 + 3 * j)) :: rest)) := by
  rcases (show j = 0 ∨ j = 1 ∨ j = 2 ∨ j = 3 by omega) with rfl | rfl | rfl | rfl
  · exact gf_C_18_given hC hK hw hdg kk
  · exact gf_C_21_given hC hK hw hdg kk
  · exact gf_C_24_given hC hK hw hdg kk
  · exact gf_C_27_given hC hK hw hdg kk
theorem al_TV {K : Option β} {j : Nat} {i : Int32} (hj : j < 4) (hC : fx_C p s m args meth c cc own nL) (hK : va_K D vC (tyC cI cZ cT) s) (hw : fw D A H0 (wC ad cI cZ cT v u) H locs) (hdg : decode cc pc = .ok (.iaload, 1)) (h : k_gd (inb i 17) K = some z) (kk : K = some z → W p l e R s m args below meth c H locs cells slots Q (F0 m (pc + 1) ls (.int (u.2 (7 + 2 * j) i.toNatClampNeg) :: rest))) : W p l e R s m args below meth c H locs cells slots Q (F0 m pc ls (.int i :: .ref (ad (19 + 3 * j)) :: rest)) := by
  rcases (show j = 0 ∨ j = 1 ∨ j = 2 ∨ j = 3 by omega) with rfl | rfl | rfl | rfl
  · exact al_C_19 hC hK hw hdg h kk
  · exact al_C_22 hC hK hw hdg h kk
  · exact al_C_25 hC hK hw hdg h kk
  · exact al_C_28 hC hK hw hdg h kk
theorem as_TV {K : ST → Option β} {x : Int32} {j : Nat} {i : Int32} (hj : j < 4) (hC : fx_C p s m args meth c cc own nL) (hK : va_K D vC (tyC cI cZ cT) s) (hw : fw D A H0 (wC ad cI cZ cT v u) H locs) (hdg : decode cc pc = .ok (.iastore, 1)) (h : k_gd (inb i 17) (k_let (rs u (7 + 2 * j) i.toNatClampNeg x) K) = some z) (kk : ∀ (H1 : Heap) (locs1 : List Loc) (u1 : ST), K u1 = some z → fw D A H0 (wC ad cI cZ cT v u1) H1 locs1 → W p l e R s m args below meth c H1 locs1 cells slots Q (F0 m (pc + 1) ls rest)) : W p l e R s m args below meth c H locs cells slots Q (F0 m pc ls (.int x :: .int i :: .ref (ad (19 + 3 * j)) :: rest)) := by
  rcases (show j = 0 ∨ j = 1 ∨ j = 2 ∨ j = 3 by omega) with rfl | rfl | rfl | rfl
  · exact as_C_19 hC hK hw hdg h kk
  · exact as_C_22 hC hK hw hdg h kk
  · exact as_C_25 hC hK hw hdg h kk
  · exact as_C_28 hC hK hw hdg h kk
theorem al_TG {K : Option β} {j : Nat} {i : Int32} (hj : j < 4) (hC : fx_C p s m args meth c cc own nL) (hK : va_K D vC (tyC cI cZ cT) s) (hw : fw D A H0 (wC ad cI cZ cT v u) H locs) (hdg : decode cc pc = .ok (.baload, 1)) (h : k_gd (inb i 17) K = some z) (kk : K = some z → W p l e R s m args below meth c H locs cells slots Q (F0 m (pc + 1) ls (.int (u.2 (8 + 2 * j) i.toNatClampNeg) :: rest))) : W p l e R s m args below meth c H locs cells slots Q (F0 m pc ls (.int i :: .ref (ad (20 + 3 * j)) :: rest)) := by
  rcases (show j = 0 ∨ j = 1 ∨ j = 2 ∨ j = 3 by omega) with rfl | rfl | rfl | rfl
  · exact al_C_20 hC hK hw hdg h kk
  · exact al_C_23 hC hK hw hdg h kk
  · exact al_C_26 hC hK hw hdg h kk
  · exact al_C_29 hC hK hw hdg h kk
theorem as_TG {K : ST → Option β} {x : Int32} {j : Nat} {i : Int32} (hj : j < 4) (hC : fx_C p s m args meth c cc own nL) (hK : va_K D vC (tyC cI cZ cT) s) (hw : fw D A H0 (wC ad cI cZ cT v u) H locs) (hv : isz x) (hdg : decode cc pc = .ok (.bastore, 1)) (h : k_gd (inb i 17) (k_let (rs u (8 + 2 * j) i.toNatClampNeg x) K) = some z) (kk : ∀ (H1 : Heap) (locs1 : List Loc) (u1 : ST), K u1 = some z → fw D A H0 (wC ad cI cZ cT v u1) H1 locs1 → W p l e R s m args below meth c H1 locs1 cells slots Q (F0 m (pc + 1) ls rest)) : W p l e R s m args below meth c H locs cells slots Q (F0 m pc ls (.int x :: .int i :: .ref (ad (20 + 3 * j)) :: rest)) := by
  rcases (show j = 0 ∨ j = 1 ∨ j = 2 ∨ j = 3 by omega) with rfl | rfl | rfl | rfl
  · exact as_C_20 hC hK hw hv hdg h kk
  · exact as_C_23 hC hK hw hv hdg h kk
  · exact as_C_26 hC hK hw hv hdg h kk
  · exact as_C_29 hC hK hw hv hdg h kk
theorem at_T {j : Nat} (hj : j < 4) : (wC ad cI cZ cT v u)[18 + 3 * j]? = some (ad (18 + 3 * j), .inr (1, [.int (rfT j), .int (bnT j), .ref (ad (19 + 3 * j)), .ref (ad (20 + 3 * j))])) := by
  rcases (show j = 0 ∨ j = 1 ∨ j = 2 ∨ j = 3 by omega) with rfl | rfl | rfl | rfl <;> rfl
end
end
section
section
variable {p : Program} {l : Launch} {e : Env} {R : Room} {s : State} {m : MethodId} {args : Array Value} {below : List Frame} {meth : Method} {c : Code} {H : Heap} {locs : List Loc} {cells slots : Nat} {Q : State → Prop} {cc : ByteArray} {pc nL : Nat} {ls : Array Slot} {rest : List Value} {D : va_G} {A : Nat → Prop} {H0 : Heap} {β : Type} {z : β} {ad : Nat → Nat} {cI cZ cT : ClassId} {v u : ST} {own : String}
theorem gf_M_30_own (hC : fx_C p s m args meth c cc "PassedTokenModel" nL) (hK : va_K D vC (tyC cI cZ cT) s) (hw : fw D A H0 (wM ad cI cZ cT u v) H locs) (hdg : decode cc pc = .ok (.getfield 39, 3)) (kk : W p l e R s m args below meth c H locs cells slots Q (F0 m (pc + 3) ls (.int (v.1 0) :: rest))) : W p l e R s m args below meth c H locs cells slots Q (F0 m pc ls (.ref (ad 30) :: rest)) := va_get (D := D) (ci := 5) (v := .int (v.1 0)) (C := "PassedTokenModel") (T := F_Mod) (N := 29) hC.1 hC.2.1 hC.2.2.2.2.1 in_Mod hC.2.2.2.1 hK hw.1 30 rfl rfl 0 (by decide) (hC.2.2.2.2.1 _ kw_513) (fun _ h9 => h9) rfl hdg kk
theorem gf_M_30_most (hC : fx_C p s m args meth c cc "PassedTokenModel" nL) (hK : va_K D vC (tyC cI cZ cT) s) (hw : fw D A H0 (wM ad cI cZ cT u v) H locs) (hdg : decode cc pc = .ok (.getfield 35, 3)) (kk : W p l e R s m args below meth c H locs cells slots Q (F0 m (pc + 3) ls (.int (v.1 1) :: rest))) : W p l e R s m args below meth c H locs cells slots Q (F0 m pc ls (.ref (ad 30) :: rest)) := va_get (D := D) (ci := 5) (v := .int (v.1 1)) (C := "PassedTokenModel") (T := F_Mod) (N := 29) hC.1 hC.2.1 hC.2.2.2.2.1 in_Mod hC.2.2.2.1 hK hw.1 30 rfl rfl 1 (by decide) (hC.2.2.2.2.1 _ kw_514) (fun _ h9 => h9) rfl hdg kk
theorem gf_M_30_silence (hC : fx_C p s m args meth c cc "PassedTokenModel" nL) (hK : va_K D vC (tyC cI cZ cT) s) (hw : fw D A H0 (wM ad cI cZ cT u v) H locs) (hdg : decode cc pc = .ok (.getfield 64, 3)) (kk : W p l e R s m args below meth c H locs cells slots Q (F0 m (pc + 3) ls (.int (v.1 2) :: rest))) : W p l e R s m args below meth c H locs cells slots Q (F0 m pc ls (.ref (ad 30) :: rest)) := va_get (D := D) (ci := 5) (v := .int (v.1 2)) (C := "PassedTokenModel") (T := F_Mod) (N := 29) hC.1 hC.2.1 hC.2.2.2.2.1 in_Mod hC.2.2.2.1 hK hw.1 30 rfl rfl 2 (by decide) (hC.2.2.2.2.1 _ kw_515) (fun _ h9 => h9) rfl hdg kk
theorem pf_M_30_silence {K : ST → Option β} {x : Int32} (hC : fx_C p s m args meth c cc "PassedTokenModel" nL) (hK : va_K D vC (tyC cI cZ cT) s) (hw : fw D A H0 (wM ad cI cZ cT u v) H locs) (hdg : decode cc pc = .ok (.putfield 64, 3)) (h : k_let (ss v 2 x) K = some z) (kk : ∀ (H1 : Heap) (locs1 : List Loc) (u1 : ST), K u1 = some z → fw D A H0 (wM ad cI cZ cT u u1) H1 locs1 → W p l e R s m args below meth c H1 locs1 cells slots Q (F0 m (pc + 3) ls rest)) : W p l e R s m args below meth c H locs cells slots Q (F0 m pc ls (.int x :: .ref (ad 30) :: rest)) := va_put (D := D) (ci := 5) (v := .int x) (ty := .int) (C := "PassedTokenModel") (T := F_Mod) (N := 29) hC.1 hC.2.1 hC.2.2.2.2.1 in_Mod t_Mod t_Mod_ok n_Mod hC.2.2.2.1 hK hw.1 hw.2.1 hw.2.2 30 rfl rfl 2 (by decide) (hC.2.2.2.2.1 _ kw_515) (fun _ h9 => h9) rfl (by decide +kernel) rfl rfl (Nat.le_of_ble_eq_true rfl) hdg (fun H1 locs1 hP hD hS => kk H1 locs1 _ h ⟨hP, hD, hS⟩)
theorem gf_M_30_events (hC : fx_C p s m args meth c cc "PassedTokenModel" nL) (hK : va_K D vC (tyC cI cZ cT) s) (hw : fw D A H0 (wM ad cI cZ cT u v) H locs) (hdg : decode cc pc = .ok (.getfield 71, 3)) (kk : W p l e R s m args below meth c H locs cells slots Q (F0 m (pc + 3) ls (.int (v.1 3) :: rest))) : W p l e R s m args below meth c H locs cells slots Q (F0 m pc ls (.ref (ad 30) :: rest)) := va_get (D := D) (ci := 5) (v := .int (v.1 3)) (C := "PassedTokenModel") (T := F_Mod) (N := 29) hC.1 hC.2.1 hC.2.2.2.2.1 in_Mod hC.2.2.2.1 hK hw.1 30 rfl rfl 3 (by decide) (hC.2.2.2.2.1 _ kw_516) (fun _ h9 => h9) rfl hdg kk
theorem pf_M_30_events {K : ST → Option β} {x : Int32} (hC : fx_C p s m args meth c cc "PassedTokenModel" nL) (hK : va_K D vC (tyC cI cZ cT) s) (hw : fw D A H0 (wM ad cI cZ cT u v) H locs) (hdg : decode cc pc = .ok (.putfield 71, 3)) (h : k_let (ss v 3 x) K = some z) (kk : ∀ (H1 : Heap) (locs1 : List Loc) (u1 : ST), K u1 = some z → fw D A H0 (wM ad cI cZ cT u u1) H1 locs1 → W p l e R s m args below meth c H1 locs1 cells slots Q (F0 m (pc + 3) ls rest)) : W p l e R s m args below meth c H locs cells slots Q (F0 m pc ls (.int x :: .ref (ad 30) :: rest)) := va_put (D := D) (ci := 5) (v := .int x) (ty := .int) (C := "PassedTokenModel") (T := F_Mod) (N := 29) hC.1 hC.2.1 hC.2.2.2.2.1 in_Mod t_Mod t_Mod_ok n_Mod hC.2.2.2.1 hK hw.1 hw.2.1 hw.2.2 30 rfl rfl 3 (by decide) (hC.2.2.2.2.1 _ kw_516) (fun _ h9 => h9) rfl (by decide +kernel) rfl rfl (Nat.le_of_ble_eq_true rfl) hdg (fun H1 locs1 hP hD hS => kk H1 locs1 _ h ⟨hP, hD, hS⟩)
theorem gf_M_30_state (hC : fx_C p s m args meth c cc "PassedTokenModel" nL) (hK : va_K D vC (tyC cI cZ cT) s) (hw : fw D A H0 (wM ad cI cZ cT u v) H locs) (hdg : decode cc pc = .ok (.getfield 100, 3)) (kk : W p l e R s m args below meth c H locs cells slots Q (F0 m (pc + 3) ls (.int (v.1 4) :: rest))) : W p l e R s m args below meth c H locs cells slots Q (F0 m pc ls (.ref (ad 30) :: rest)) := va_get (D := D) (ci := 5) (v := .int (v.1 4)) (C := "PassedTokenModel") (T := F_Mod) (N := 29) hC.1 hC.2.1 hC.2.2.2.2.1 in_Mod hC.2.2.2.1 hK hw.1 30 rfl rfl 4 (by decide) (hC.2.2.2.2.1 _ kw_517) (fun _ h9 => h9) rfl hdg kk
theorem pf_M_30_state {K : ST → Option β} {x : Int32} (hC : fx_C p s m args meth c cc "PassedTokenModel" nL) (hK : va_K D vC (tyC cI cZ cT) s) (hw : fw D A H0 (wM ad cI cZ cT u v) H locs) (hdg : decode cc pc = .ok (.putfield 100, 3)) (h : k_let (ss v 4 x) K = some z) (kk : ∀ (H1 : Heap) (locs1 : List Loc) (u1 : ST), K u1 = some z → fw D A H0 (wM ad cI cZ cT u u1) H1 locs1 → W p l e R s m args below meth c H1 locs1 cells slots Q (F0 m (pc + 3) ls rest)) : W p l e R s m args below meth c H locs cells slots Q (F0 m pc ls (.int x :: .ref (ad 30) :: rest)) := va_put (D := D) (ci := 5) (v := .int x) (ty := .int) (C := "PassedTokenModel") (T := F_Mod) (N := 29) hC.1 hC.2.1 hC.2.2.2.2.1 in_Mod t_Mod t_Mod_ok n_Mod hC.2.2.2.1 hK hw.1 hw.2.1 hw.2.2 30 rfl rfl 4 (by decide) (hC.2.2.2.2.1 _ kw_517) (fun _ h9 => h9) rfl (by decide +kernel) rfl rfl (Nat.le_of_ble_eq_true rfl) hdg (fun H1 locs1 hP hD hS => kk H1 locs1 _ h ⟨hP, hD, hS⟩)
theorem gf_M_30_next (hC : fx_C p s m args meth c cc "PassedTokenModel" nL) (hK : va_K D vC (tyC cI cZ cT) s) (hw : fw D A H0 (wM ad cI cZ cT u v) H locs) (hdg : decode cc pc = .ok (.getfield 42, 3)) (kk : W p l e R s m args below meth c H locs cells slots Q (F0 m (pc + 3) ls (.int (v.1 5) :: rest))) : W p l e R s m args below meth c H locs cells slots Q (F0 m pc ls (.ref (ad 30) :: rest)) := va_get (D := D) (ci := 5) (v := .int (v.1 5)) (C := "PassedTokenModel") (T := F_Mod) (N := 29) hC.1 hC.2.1 hC.2.2.2.2.1 in_Mod hC.2.2.2.1 hK hw.1 30 rfl rfl 5 (by decide) (hC.2.2.2.2.1 _ kw_518) (fun _ h9 => h9) rfl hdg kk
theorem pf_M_30_next {K : ST → Option β} {x : Int32} (hC : fx_C p s m args meth c cc "PassedTokenModel" nL) (hK : va_K D vC (tyC cI cZ cT) s) (hw : fw D A H0 (wM ad cI cZ cT u v) H locs) (hdg : decode cc pc = .ok (.putfield 42, 3)) (h : k_let (ss v 5 x) K = some z) (kk : ∀ (H1 : Heap) (locs1 : List Loc) (u1 : ST), K u1 = some z → fw D A H0 (wM ad cI cZ cT u u1) H1 locs1 → W p l e R s m args below meth c H1 locs1 cells slots Q (F0 m (pc + 3) ls rest)) : W p l e R s m args below meth c H locs cells slots Q (F0 m pc ls (.int x :: .ref (ad 30) :: rest)) := va_put (D := D) (ci := 5) (v := .int x) (ty := .int) (C := "PassedTokenModel") (T := F_Mod) (N := 29) hC.1 hC.2.1 hC.2.2.2.2.1 in_Mod t_Mod t_Mod_ok n_Mod hC.2.2.2.1 hK hw.1 hw.2.1 hw.2.2 30 rfl rfl 5 (by decide) (hC.2.2.2.2.1 _ kw_518) (fun _ h9 => h9) rfl (by decide +kernel) rfl rfl (Nat.le_of_ble_eq_true rfl) hdg (fun H1 locs1 hP hD hS => kk H1 locs1 _ h ⟨hP, hD, hS⟩)
theorem gf_M_30_polled (hC : fx_C p s m args meth c cc "PassedTokenModel" nL) (hK : va_K D vC (tyC cI cZ cT) s) (hw : fw D A H0 (wM ad cI cZ cT u v) H locs) (hdg : decode cc pc = .ok (.getfield 45, 3)) (kk : W p l e R s m args below meth c H locs cells slots Q (F0 m (pc + 3) ls (.int (v.1 6) :: rest))) : W p l e R s m args below meth c H locs cells slots Q (F0 m pc ls (.ref (ad 30) :: rest)) := va_get (D := D) (ci := 5) (v := .int (v.1 6)) (C := "PassedTokenModel") (T := F_Mod) (N := 29) hC.1 hC.2.1 hC.2.2.2.2.1 in_Mod hC.2.2.2.1 hK hw.1 30 rfl rfl 6 (by decide) (hC.2.2.2.2.1 _ kw_519) (fun _ h9 => h9) rfl hdg kk
theorem pf_M_30_polled {K : ST → Option β} {x : Int32} (hC : fx_C p s m args meth c cc "PassedTokenModel" nL) (hK : va_K D vC (tyC cI cZ cT) s) (hw : fw D A H0 (wM ad cI cZ cT u v) H locs) (hdg : decode cc pc = .ok (.putfield 45, 3)) (h : k_let (ss v 6 x) K = some z) (kk : ∀ (H1 : Heap) (locs1 : List Loc) (u1 : ST), K u1 = some z → fw D A H0 (wM ad cI cZ cT u u1) H1 locs1 → W p l e R s m args below meth c H1 locs1 cells slots Q (F0 m (pc + 3) ls rest)) : W p l e R s m args below meth c H locs cells slots Q (F0 m pc ls (.int x :: .ref (ad 30) :: rest)) := va_put (D := D) (ci := 5) (v := .int x) (ty := .int) (C := "PassedTokenModel") (T := F_Mod) (N := 29) hC.1 hC.2.1 hC.2.2.2.2.1 in_Mod t_Mod t_Mod_ok n_Mod hC.2.2.2.1 hK hw.1 hw.2.1 hw.2.2 30 rfl rfl 6 (by decide) (hC.2.2.2.2.1 _ kw_519) (fun _ h9 => h9) rfl (by decide +kernel) rfl rfl (Nat.le_of_ble_eq_true rfl) hdg (fun H1 locs1 hP hD hS => kk H1 locs1 _ h ⟨hP, hD, hS⟩)
theorem gf_M_30_tokens (hC : fx_C p s m args meth c cc "PassedTokenModel" nL) (hK : va_K D vC (tyC cI cZ cT) s) (hw : fw D A H0 (wM ad cI cZ cT u v) H locs) (hdg : decode cc pc = .ok (.getfield 149, 3)) (kk : W p l e R s m args below meth c H locs cells slots Q (F0 m (pc + 3) ls (.int (v.1 7) :: rest))) : W p l e R s m args below meth c H locs cells slots Q (F0 m pc ls (.ref (ad 30) :: rest)) := va_get (D := D) (ci := 5) (v := .int (v.1 7)) (C := "PassedTokenModel") (T := F_Mod) (N := 29) hC.1 hC.2.1 hC.2.2.2.2.1 in_Mod hC.2.2.2.1 hK hw.1 30 rfl rfl 7 (by decide) (hC.2.2.2.2.1 _ kw_520) (fun _ h9 => h9) rfl hdg kk
theorem pf_M_30_tokens {K : ST → Option β} {x : Int32} (hC : fx_C p s m args meth c cc "PassedTokenModel" nL) (hK : va_K D vC (tyC cI cZ cT) s) (hw : fw D A H0 (wM ad cI cZ cT u v) H locs) (hdg : decode cc pc = .ok (.putfield 149, 3)) (h : k_let (ss v 7 x) K = some z) (kk : ∀ (H1 : Heap) (locs1 : List Loc) (u1 : ST), K u1 = some z → fw D A H0 (wM ad cI cZ cT u u1) H1 locs1 → W p l e R s m args below meth c H1 locs1 cells slots Q (F0 m (pc + 3) ls rest)) : W p l e R s m args below meth c H locs cells slots Q (F0 m pc ls (.int x :: .ref (ad 30) :: rest)) := va_put (D := D) (ci := 5) (v := .int x) (ty := .int) (C := "PassedTokenModel") (T := F_Mod) (N := 29) hC.1 hC.2.1 hC.2.2.2.2.1 in_Mod t_Mod t_Mod_ok n_Mod hC.2.2.2.1 hK hw.1 hw.2.1 hw.2.2 30 rfl rfl 7 (by decide) (hC.2.2.2.2.1 _ kw_520) (fun _ h9 => h9) rfl (by decide +kernel) rfl rfl (Nat.le_of_ble_eq_true rfl) hdg (fun H1 locs1 hP hD hS => kk H1 locs1 _ h ⟨hP, hD, hS⟩)
theorem gf_M_30_tries (hC : fx_C p s m args meth c cc "PassedTokenModel" nL) (hK : va_K D vC (tyC cI cZ cT) s) (hw : fw D A H0 (wM ad cI cZ cT u v) H locs) (hdg : decode cc pc = .ok (.getfield 152, 3)) (kk : W p l e R s m args below meth c H locs cells slots Q (F0 m (pc + 3) ls (.int (v.1 8) :: rest))) : W p l e R s m args below meth c H locs cells slots Q (F0 m pc ls (.ref (ad 30) :: rest)) := va_get (D := D) (ci := 5) (v := .int (v.1 8)) (C := "PassedTokenModel") (T := F_Mod) (N := 29) hC.1 hC.2.1 hC.2.2.2.2.1 in_Mod hC.2.2.2.1 hK hw.1 30 rfl rfl 8 (by decide) (hC.2.2.2.2.1 _ kw_521) (fun _ h9 => h9) rfl hdg kk
theorem pf_M_30_tries {K : ST → Option β} {x : Int32} (hC : fx_C p s m args meth c cc "PassedTokenModel" nL) (hK : va_K D vC (tyC cI cZ cT) s) (hw : fw D A H0 (wM ad cI cZ cT u v) H locs) (hdg : decode cc pc = .ok (.putfield 152, 3)) (h : k_let (ss v 8 x) K = some z) (kk : ∀ (H1 : Heap) (locs1 : List Loc) (u1 : ST), K u1 = some z → fw D A H0 (wM ad cI cZ cT u u1) H1 locs1 → W p l e R s m args below meth c H1 locs1 cells slots Q (F0 m (pc + 3) ls rest)) : W p l e R s m args below meth c H locs cells slots Q (F0 m pc ls (.int x :: .ref (ad 30) :: rest)) := va_put (D := D) (ci := 5) (v := .int x) (ty := .int) (C := "PassedTokenModel") (T := F_Mod) (N := 29) hC.1 hC.2.1 hC.2.2.2.2.1 in_Mod t_Mod t_Mod_ok n_Mod hC.2.2.2.1 hK hw.1 hw.2.1 hw.2.2 30 rfl rfl 8 (by decide) (hC.2.2.2.2.1 _ kw_521) (fun _ h9 => h9) rfl (by decide +kernel) rfl rfl (Nat.le_of_ble_eq_true rfl) hdg (fun H1 locs1 hP hD hS => kk H1 locs1 _ h ⟨hP, hD, hS⟩)
theorem gf_M_30_sole (hC : fx_C p s m args meth c cc "PassedTokenModel" nL) (hK : va_K D vC (tyC cI cZ cT) s) (hw : fw D A H0 (wM ad cI cZ cT u v) H locs) (hdg : decode cc pc = .ok (.getfield 124, 3)) (kk : W p l e R s m args below meth c H locs cells slots Q (F0 m (pc + 3) ls (.int (v.1 9) :: rest))) : W p l e R s m args below meth c H locs cells slots Q (F0 m pc ls (.ref (ad 30) :: rest)) := va_get (D := D) (ci := 5) (v := .int (v.1 9)) (C := "PassedTokenModel") (T := F_Mod) (N := 29) hC.1 hC.2.1 hC.2.2.2.2.1 in_Mod hC.2.2.2.1 hK hw.1 30 rfl rfl 9 (by decide) (hC.2.2.2.2.1 _ kw_522) (fun _ h9 => h9) rfl hdg kk
theorem pf_M_30_sole {K : ST → Option β} {x : Int32} (hC : fx_C p s m args meth c cc "PassedTokenModel" nL) (hK : va_K D vC (tyC cI cZ cT) s) (hw : fw D A H0 (wM ad cI cZ cT u v) H locs) (hv : isz x) (hdg : decode cc pc = .ok (.putfield 124, 3)) (h : k_let (ss v 9 x) K = some z) (kk : ∀ (H1 : Heap) (locs1 : List Loc) (u1 : ST), K u1 = some z → fw D A H0 (wM ad cI cZ cT u u1) H1 locs1 → W p l e R s m args below meth c H1 locs1 cells slots Q (F0 m (pc + 3) ls rest)) : W p l e R s m args below meth c H locs cells slots Q (F0 m pc ls (.int x :: .ref (ad 30) :: rest)) := va_put (D := D) (ci := 5) (v := .int x) (ty := .boolean) (C := "PassedTokenModel") (T := F_Mod) (N := 29) hC.1 hC.2.1 hC.2.2.2.2.1 in_Mod t_Mod t_Mod_ok n_Mod hC.2.2.2.1 hK hw.1 hw.2.1 hw.2.2 30 rfl rfl 9 (by decide) (hC.2.2.2.2.1 _ kw_522) (fun _ h9 => h9) rfl (by decide +kernel) (by rcases hv with rfl | rfl <;> rfl) (by rcases hv with rfl | rfl <;> rfl) (Nat.le_of_ble_eq_true rfl) hdg (fun H1 locs1 hP hD hS => kk H1 locs1 _ h ⟨hP, hD, hS⟩)
theorem gf_M_30_come (hC : fx_C p s m args meth c cc "PassedTokenModel" nL) (hK : va_K D vC (tyC cI cZ cT) s) (hw : fw D A H0 (wM ad cI cZ cT u v) H locs) (hdg : decode cc pc = .ok (.getfield 74, 3)) (kk : W p l e R s m args below meth c H locs cells slots Q (F0 m (pc + 3) ls (.int (v.1 10) :: rest))) : W p l e R s m args below meth c H locs cells slots Q (F0 m pc ls (.ref (ad 30) :: rest)) := va_get (D := D) (ci := 5) (v := .int (v.1 10)) (C := "PassedTokenModel") (T := F_Mod) (N := 29) hC.1 hC.2.1 hC.2.2.2.2.1 in_Mod hC.2.2.2.1 hK hw.1 30 rfl rfl 10 (by decide) (hC.2.2.2.2.1 _ kw_523) (fun _ h9 => h9) rfl hdg kk
theorem pf_M_30_come {K : ST → Option β} {x : Int32} (hC : fx_C p s m args meth c cc "PassedTokenModel" nL) (hK : va_K D vC (tyC cI cZ cT) s) (hw : fw D A H0 (wM ad cI cZ cT u v) H locs) (hdg : decode cc pc = .ok (.putfield 74, 3)) (h : k_let (ss v 10 x) K = some z) (kk : ∀ (H1 : Heap) (locs1 : List Loc) (u1 : ST), K u1 = some z → fw D A H0 (wM ad cI cZ cT u u1) H1 locs1 → W p l e R s m args below meth c H1 locs1 cells slots Q (F0 m (pc + 3) ls rest)) : W p l e R s m args below meth c H locs cells slots Q (F0 m pc ls (.int x :: .ref (ad 30) :: rest)) := va_put (D := D) (ci := 5) (v := .int x) (ty := .int) (C := "PassedTokenModel") (T := F_Mod) (N := 29) hC.1 hC.2.1 hC.2.2.2.2.1 in_Mod t_Mod t_Mod_ok n_Mod hC.2.2.2.1 hK hw.1 hw.2.1 hw.2.2 30 rfl rfl 10 (by decide) (hC.2.2.2.2.1 _ kw_523) (fun _ h9 => h9) rfl (by decide +kernel) rfl rfl (Nat.le_of_ble_eq_true rfl) hdg (fun H1 locs1 hP hD hS => kk H1 locs1 _ h ⟨hP, hD, hS⟩)
theorem gf_M_30_header (hC : fx_C p s m args meth c cc "PassedTokenModel" nL) (hK : va_K D vC (tyC cI cZ cT) s) (hw : fw D A H0 (wM ad cI cZ cT u v) H locs) (hdg : decode cc pc = .ok (.getfield 7, 3)) (kk : W p l e R s m args below meth c H locs cells slots Q (F0 m (pc + 3) ls (.ref (ad 31) :: rest))) : W p l e R s m args below meth c H locs cells slots Q (F0 m pc ls (.ref (ad 30) :: rest)) := va_get (D := D) (ci := 5) (v := .ref (ad 31)) (C := "PassedTokenModel") (T := F_Mod) (N := 29) hC.1 hC.2.1 hC.2.2.2.2.1 in_Mod hC.2.2.2.1 hK hw.1 30 rfl rfl 11 (by decide) (hC.2.2.2.2.1 _ kw_524) (fun _ h9 => h9) rfl hdg kk
theorem gf_M_30_data (hC : fx_C p s m args meth c cc "PassedTokenModel" nL) (hK : va_K D vC (tyC cI cZ cT) s) (hw : fw D A H0 (wM ad cI cZ cT u v) H locs) (hdg : decode cc pc = .ok (.getfield 13, 3)) (kk : W p l e R s m args below meth c H locs cells slots Q (F0 m (pc + 3) ls (.ref (ad 32) :: rest))) : W p l e R s m args below meth c H locs cells slots Q (F0 m pc ls (.ref (ad 30) :: rest)) := va_get (D := D) (ci := 5) (v := .ref (ad 32)) (C := "PassedTokenModel") (T := F_Mod) (N := 29) hC.1 hC.2.1 hC.2.2.2.2.1 in_Mod hC.2.2.2.1 hK hw.1 30 rfl rfl 12 (by decide) (hC.2.2.2.2.1 _ kw_525) (fun _ h9 => h9) rfl hdg kk
theorem gf_M_30_size (hC : fx_C p s m args meth c cc "PassedTokenModel" nL) (hK : va_K D vC (tyC cI cZ cT) s) (hw : fw D A H0 (wM ad cI cZ cT u v) H locs) (hdg : decode cc pc = .ok (.getfield 80, 3)) (kk : W p l e R s m args below meth c H locs cells slots Q (F0 m (pc + 3) ls (.int (v.1 13) :: rest))) : W p l e R s m args below meth c H locs cells slots Q (F0 m pc ls (.ref (ad 30) :: rest)) := va_get (D := D) (ci := 5) (v := .int (v.1 13)) (C := "PassedTokenModel") (T := F_Mod) (N := 29) hC.1 hC.2.1 hC.2.2.2.2.1 in_Mod hC.2.2.2.1 hK hw.1 30 rfl rfl 13 (by decide) (hC.2.2.2.2.1 _ kw_526) (fun _ h9 => h9) rfl hdg kk
theorem pf_M_30_size {K : ST → Option β} {x : Int32} (hC : fx_C p s m args meth c cc "PassedTokenModel" nL) (hK : va_K D vC (tyC cI cZ cT) s) (hw : fw D A H0 (wM ad cI cZ cT u v) H locs) (hdg : decode cc pc = .ok (.putfield 80, 3)) (h : k_let (ss v 13 x) K = some z) (kk : ∀ (H1 : Heap) (locs1 : List Loc) (u1 : ST), K u1 = some z → fw D A H0 (wM ad cI cZ cT u u1) H1 locs1 → W p l e R s m args below meth c H1 locs1 cells slots Q (F0 m (pc + 3) ls rest)) : W p l e R s m args below meth c H locs cells slots Q (F0 m pc ls (.int x :: .ref (ad 30) :: rest)) := va_put (D := D) (ci := 5) (v := .int x) (ty := .int) (C := "PassedTokenModel") (T := F_Mod) (N := 29) hC.1 hC.2.1 hC.2.2.2.2.1 in_Mod t_Mod t_Mod_ok n_Mod hC.2.2.2.1 hK hw.1 hw.2.1 hw.2.2 30 rfl rfl 13 (by decide) (hC.2.2.2.2.1 _ kw_526) (fun _ h9 => h9) rfl (by decide +kernel) rfl rfl (Nat.le_of_ble_eq_true rfl) hdg (fun H1 locs1 hP hD hS => kk H1 locs1 _ h ⟨hP, hD, hS⟩)
theorem gf_M_30_heard (hC : fx_C p s m args meth c cc "PassedTokenModel" nL) (hK : va_K D vC (tyC cI cZ cT) s) (hw : fw D A H0 (wM ad cI cZ cT u v) H locs) (hdg : decode cc pc = .ok (.getfield 94, 3)) (kk : W p l e R s m args below meth c H locs cells slots Q (F0 m (pc + 3) ls (.int (v.1 14) :: rest))) : W p l e R s m args below meth c H locs cells slots Q (F0 m pc ls (.ref (ad 30) :: rest)) := va_get (D := D) (ci := 5) (v := .int (v.1 14)) (C := "PassedTokenModel") (T := F_Mod) (N := 29) hC.1 hC.2.1 hC.2.2.2.2.1 in_Mod hC.2.2.2.1 hK hw.1 30 rfl rfl 14 (by decide) (hC.2.2.2.2.1 _ kw_527) (fun _ h9 => h9) rfl hdg kk
theorem pf_M_30_heard {K : ST → Option β} {x : Int32} (hC : fx_C p s m args meth c cc "PassedTokenModel" nL) (hK : va_K D vC (tyC cI cZ cT) s) (hw : fw D A H0 (wM ad cI cZ cT u v) H locs) (hv : isz x) (hdg : decode cc pc = .ok (.putfield 94, 3)) (h : k_let (ss v 14 x) K = some z) (kk : ∀ (H1 : Heap) (locs1 : List Loc) (u1 : ST), K u1 = some z → fw D A H0 (wM ad cI cZ cT u u1) H1 locs1 → W p l e R s m args below meth c H1 locs1 cells slots Q (F0 m (pc + 3) ls rest)) : W p l e R s m args below meth c H locs cells slots Q (F0 m pc ls (.int x :: .ref (ad 30) :: rest)) := va_put (D := D) (ci := 5) (v := .int x) (ty := .boolean) (C := "PassedTokenModel") (T := F_Mod) (N := 29) hC.1 hC.2.1 hC.2.2.2.2.1 in_Mod t_Mod t_Mod_ok n_Mod hC.2.2.2.1 hK hw.1 hw.2.1 hw.2.2 30 rfl rfl 14 (by decide) (hC.2.2.2.2.1 _ kw_527) (fun _ h9 => h9) rfl (by decide +kernel) (by rcases hv with rfl | rfl <;> rfl) (by rcases hv with rfl | rfl <;> rfl) (Nat.le_of_ble_eq_true rfl) hdg (fun H1 locs1 hP hD hS => kk H1 locs1 _ h ⟨hP, hD, hS⟩)
theorem gf_M_30_invalid (hC : fx_C p s m args meth c cc "PassedTokenModel" nL) (hK : va_K D vC (tyC cI cZ cT) s) (hw : fw D A H0 (wM ad cI cZ cT u v) H locs) (hdg : decode cc pc = .ok (.getfield 86, 3)) (kk : W p l e R s m args below meth c H locs cells slots Q (F0 m (pc + 3) ls (.int (v.1 15) :: rest))) : W p l e R s m args below meth c H locs cells slots Q (F0 m pc ls (.ref (ad 30) :: rest)) := va_get (D := D) (ci := 5) (v := .int (v.1 15)) (C := "PassedTokenModel") (T := F_Mod) (N := 29) hC.1 hC.2.1 hC.2.2.2.2.1 in_Mod hC.2.2.2.1 hK hw.1 30 rfl rfl 15 (by decide) (hC.2.2.2.2.1 _ kw_528) (fun _ h9 => h9) rfl hdg kk
theorem pf_M_30_invalid {K : ST → Option β} {x : Int32} (hC : fx_C p s m args meth c cc "PassedTokenModel" nL) (hK : va_K D vC (tyC cI cZ cT) s) (hw : fw D A H0 (wM ad cI cZ cT u v) H locs) (hv : isz x) (hdg : decode cc pc = .ok (.putfield 86, 3)) (h : k_let (ss v 15 x) K = some z) (kk : ∀ (H1 : Heap) (locs1 : List Loc) (u1 : ST), K u1 = some z → fw D A H0 (wM ad cI cZ cT u u1) H1 locs1 → W p l e R s m args below meth c H1 locs1 cells slots Q (F0 m (pc + 3) ls rest)) : W p l e R s m args below meth c H locs cells slots Q (F0 m pc ls (.int x :: .ref (ad 30) :: rest)) := va_put (D := D) (ci := 5) (v := .int x) (ty := .boolean) (C := "PassedTokenModel") (T := F_Mod) (N := 29) hC.1 hC.2.1 hC.2.2.2.2.1 in_Mod t_Mod t_Mod_ok n_Mod hC.2.2.2.1 hK hw.1 hw.2.1 hw.2.2 30 rfl rfl 15 (by decide) (hC.2.2.2.2.1 _ kw_528) (fun _ h9 => h9) rfl (by decide +kernel) (by rcases hv with rfl | rfl <;> rfl) (by rcases hv with rfl | rfl <;> rfl) (Nat.le_of_ble_eq_true rfl) hdg (fun H1 locs1 hP hD hS => kk H1 locs1 _ h ⟨hP, hD, hS⟩)
theorem gf_M_30_out (hC : fx_C p s m args meth c cc "PassedTokenModel" nL) (hK : va_K D vC (tyC cI cZ cT) s) (hw : fw D A H0 (wM ad cI cZ cT u v) H locs) (hdg : decode cc pc = .ok (.getfield 49, 3)) (kk : W p l e R s m args below meth c H locs cells slots Q (F0 m (pc + 3) ls (.int (v.1 16) :: rest))) : W p l e R s m args below meth c H locs cells slots Q (F0 m pc ls (.ref (ad 30) :: rest)) := va_get (D := D) (ci := 5) (v := .int (v.1 16)) (C := "PassedTokenModel") (T := F_Mod) (N := 29) hC.1 hC.2.1 hC.2.2.2.2.1 in_Mod hC.2.2.2.1 hK hw.1 30 rfl rfl 16 (by decide) (hC.2.2.2.2.1 _ kw_529) (fun _ h9 => h9) rfl hdg kk
theorem pf_M_30_out {K : ST → Option β} {x : Int32} (hC : fx_C p s m args meth c cc "PassedTokenModel" nL) (hK : va_K D vC (tyC cI cZ cT) s) (hw : fw D A H0 (wM ad cI cZ cT u v) H locs) (hdg : decode cc pc = .ok (.putfield 49, 3)) (h : k_let (ss v 16 x) K = some z) (kk : ∀ (H1 : Heap) (locs1 : List Loc) (u1 : ST), K u1 = some z → fw D A H0 (wM ad cI cZ cT u u1) H1 locs1 → W p l e R s m args below meth c H1 locs1 cells slots Q (F0 m (pc + 3) ls rest)) : W p l e R s m args below meth c H locs cells slots Q (F0 m pc ls (.int x :: .ref (ad 30) :: rest)) := va_put (D := D) (ci := 5) (v := .int x) (ty := .int) (C := "PassedTokenModel") (T := F_Mod) (N := 29) hC.1 hC.2.1 hC.2.2.2.2.1 in_Mod t_Mod t_Mod_ok n_Mod hC.2.2.2.1 hK hw.1 hw.2.1 hw.2.2 30 rfl rfl 16 (by decide) (hC.2.2.2.2.1 _ kw_529) (fun _ h9 => h9) rfl (by decide +kernel) rfl rfl (Nat.le_of_ble_eq_true rfl) hdg (fun H1 locs1 hP hD hS => kk H1 locs1 _ h ⟨hP, hD, hS⟩)
theorem gf_M_30_sent (hC : fx_C p s m args meth c cc "PassedTokenModel" nL) (hK : va_K D vC (tyC cI cZ cT) s) (hw : fw D A H0 (wM ad cI cZ cT u v) H locs) (hdg : decode cc pc = .ok (.getfield 16, 3)) (kk : W p l e R s m args below meth c H locs cells slots Q (F0 m (pc + 3) ls (.ref (ad 33) :: rest))) : W p l e R s m args below meth c H locs cells slots Q (F0 m pc ls (.ref (ad 30) :: rest)) := va_get (D := D) (ci := 5) (v := .ref (ad 33)) (C := "PassedTokenModel") (T := F_Mod) (N := 29) hC.1 hC.2.1 hC.2.2.2.2.1 in_Mod hC.2.2.2.1 hK hw.1 30 rfl rfl 17 (by decide) (hC.2.2.2.2.1 _ kw_530) (fun _ h9 => h9) rfl hdg kk
theorem gf_M_30_answered (hC : fx_C p s m args meth c cc "PassedTokenModel" nL) (hK : va_K D vC (tyC cI cZ cT) s) (hw : fw D A H0 (wM ad cI cZ cT u v) H locs) (hdg : decode cc pc = .ok (.getfield 130, 3)) (kk : W p l e R s m args below meth c H locs cells slots Q (F0 m (pc + 3) ls (.int (v.1 18) :: rest))) : W p l e R s m args below meth c H locs cells slots Q (F0 m pc ls (.ref (ad 30) :: rest)) := va_get (D := D) (ci := 5) (v := .int (v.1 18)) (C := "PassedTokenModel") (T := F_Mod) (N := 29) hC.1 hC.2.1 hC.2.2.2.2.1 in_Mod hC.2.2.2.1 hK hw.1 30 rfl rfl 18 (by decide) (hC.2.2.2.2.1 _ kw_531) (fun _ h9 => h9) rfl hdg kk
theorem pf_M_30_answered {K : ST → Option β} {x : Int32} (hC : fx_C p s m args meth c cc "PassedTokenModel" nL) (hK : va_K D vC (tyC cI cZ cT) s) (hw : fw D A H0 (wM ad cI cZ cT u v) H locs) (hdg : decode cc pc = .ok (.putfield 130, 3)) (h : k_let (ss v 18 x) K = some z) (kk : ∀ (H1 : Heap) (locs1 : List Loc) (u1 : ST), K u1 = some z → fw D A H0 (wM ad cI cZ cT u u1) H1 locs1 → W p l e R s m args below meth c H1 locs1 cells slots Q (F0 m (pc + 3) ls rest)) : W p l e R s m args below meth c H locs cells slots Q (F0 m pc ls (.int x :: .ref (ad 30) :: rest)) := va_put (D := D) (ci := 5) (v := .int x) (ty := .int) (C := "PassedTokenModel") (T := F_Mod) (N := 29) hC.1 hC.2.1 hC.2.2.2.2.1 in_Mod t_Mod t_Mod_ok n_Mod hC.2.2.2.1 hK hw.1 hw.2.1 hw.2.2 30 rfl rfl 18 (by decide) (hC.2.2.2.2.1 _ kw_531) (fun _ h9 => h9) rfl (by decide +kernel) rfl rfl (Nat.le_of_ble_eq_true rfl) hdg (fun H1 locs1 hP hD hS => kk H1 locs1 _ h ⟨hP, hD, hS⟩)
theorem gf_M_30_answer (hC : fx_C p s m args meth c cc "PassedTokenModel" nL) (hK : va_K D vC (tyC cI cZ cT) s) (hw : fw D A H0 (wM ad cI cZ cT u v) H locs) (hdg : decode cc pc = .ok (.getfield 19, 3)) (kk : W p l e R s m args below meth c H locs cells slots Q (F0 m (pc + 3) ls (.ref (ad 34) :: rest))) : W p l e R s m args below meth c H locs cells slots Q (F0 m pc ls (.ref (ad 30) :: rest)) := va_get (D := D) (ci := 5) (v := .ref (ad 34)) (C := "PassedTokenModel") (T := F_Mod) (N := 29) hC.1 hC.2.1 hC.2.2.2.2.1 in_Mod hC.2.2.2.1 hK hw.1 30 rfl rfl 19 (by decide) (hC.2.2.2.2.1 _ kw_532) (fun _ h9 => h9) rfl hdg kk
theorem gf_M_30_replied (hC : fx_C p s m args meth c cc "PassedTokenModel" nL) (hK : va_K D vC (tyC cI cZ cT) s) (hw : fw D A H0 (wM ad cI cZ cT u v) H locs) (hdg : decode cc pc = .ok (.getfield 139, 3)) (kk : W p l e R s m args below meth c H locs cells slots Q (F0 m (pc + 3) ls (.int (v.1 20) :: rest))) : W p l e R s m args below meth c H locs cells slots Q (F0 m pc ls (.ref (ad 30) :: rest)) := va_get (D := D) (ci := 5) (v := .int (v.1 20)) (C := "PassedTokenModel") (T := F_Mod) (N := 29) hC.1 hC.2.1 hC.2.2.2.2.1 in_Mod hC.2.2.2.1 hK hw.1 30 rfl rfl 20 (by decide) (hC.2.2.2.2.1 _ kw_533) (fun _ h9 => h9) rfl hdg kk
theorem pf_M_30_replied {K : ST → Option β} {x : Int32} (hC : fx_C p s m args meth c cc "PassedTokenModel" nL) (hK : va_K D vC (tyC cI cZ cT) s) (hw : fw D A H0 (wM ad cI cZ cT u v) H locs) (hdg : decode cc pc = .ok (.putfield 139, 3)) (h : k_let (ss v 20 x) K = some z) (kk : ∀ (H1 : Heap) (locs1 : List Loc) (u1 : ST), K u1 = some z → fw D A H0 (wM ad cI cZ cT u u1) H1 locs1 → W p l e R s m args below meth c H1 locs1 cells slots Q (F0 m (pc + 3) ls rest)) : W p l e R s m args below meth c H locs cells slots Q (F0 m pc ls (.int x :: .ref (ad 30) :: rest)) := va_put (D := D) (ci := 5) (v := .int x) (ty := .int) (C := "PassedTokenModel") (T := F_Mod) (N := 29) hC.1 hC.2.1 hC.2.2.2.2.1 in_Mod t_Mod t_Mod_ok n_Mod hC.2.2.2.1 hK hw.1 hw.2.1 hw.2.2 30 rfl rfl 20 (by decide) (hC.2.2.2.2.1 _ kw_533) (fun _ h9 => h9) rfl (by decide +kernel) rfl rfl (Nat.le_of_ble_eq_true rfl) hdg (fun H1 locs1 hP hD hS => kk H1 locs1 _ h ⟨hP, hD, hS⟩)
theorem gf_M_30_reply (hC : fx_C p s m args meth c cc "PassedTokenModel" nL) (hK : va_K D vC (tyC cI cZ cT) s) (hw : fw D A H0 (wM ad cI cZ cT u v) H locs) (hdg : decode cc pc = .ok (.getfield 22, 3)) (kk : W p l e R s m args below meth c H locs cells slots Q (F0 m (pc + 3) ls (.ref (ad 35) :: rest))) : W p l e R s m args below meth c H locs cells slots Q (F0 m pc ls (.ref (ad 30) :: rest)) := va_get (D := D) (ci := 5) (v := .ref (ad 35)) (C := "PassedTokenModel") (T := F_Mod) (N := 29) hC.1 hC.2.1 hC.2.2.2.2.1 in_Mod hC.2.2.2.1 hK hw.1 30 rfl rfl 21 (by decide) (hC.2.2.2.2.1 _ kw_534) (fun _ h9 => h9) rfl hdg kk
theorem gf_M_30_asks (hC : fx_C p s m args meth c cc "PassedTokenModel" nL) (hK : va_K D vC (tyC cI cZ cT) s) (hw : fw D A H0 (wM ad cI cZ cT u v) H locs) (hdg : decode cc pc = .ok (.getfield 133, 3)) (kk : W p l e R s m args below meth c H locs cells slots Q (F0 m (pc + 3) ls (.int (v.1 22) :: rest))) : W p l e R s m args below meth c H locs cells slots Q (F0 m pc ls (.ref (ad 30) :: rest)) := va_get (D := D) (ci := 5) (v := .int (v.1 22)) (C := "PassedTokenModel") (T := F_Mod) (N := 29) hC.1 hC.2.1 hC.2.2.2.2.1 in_Mod hC.2.2.2.1 hK hw.1 30 rfl rfl 22 (by decide) (hC.2.2.2.2.1 _ kw_535) (fun _ h9 => h9) rfl hdg kk
theorem pf_M_30_asks {K : ST → Option β} {x : Int32} (hC : fx_C p s m args meth c cc "PassedTokenModel" nL) (hK : va_K D vC (tyC cI cZ cT) s) (hw : fw D A H0 (wM ad cI cZ cT u v) H locs) (hv : isz x) (hdg : decode cc pc = .ok (.putfield 133, 3)) (h : k_let (ss v 22 x) K = some z) (kk : ∀ (H1 : Heap) (locs1 : List Loc) (u1 : ST), K u1 = some z → fw D A H0 (wM ad cI cZ cT u u1) H1 locs1 → W p l e R s m args below meth c H1 locs1 cells slots Q (F0 m (pc + 3) ls rest)) : W p l e R s m args below meth c H locs cells slots Q (F0 m pc ls (.int x :: .ref (ad 30) :: rest)) := va_put (D := D) (ci := 5) (v := .int x) (ty := .boolean) (C := "PassedTokenModel") (T := F_Mod) (N := 29) hC.1 hC.2.1 hC.2.2.2.2.1 in_Mod t_Mod t_Mod_ok n_Mod hC.2.2.2.1 hK hw.1 hw.2.1 hw.2.2 30 rfl rfl 22 (by decide) (hC.2.2.2.2.1 _ kw_535) (fun _ h9 => h9) rfl (by decide +kernel) (by rcases hv with rfl | rfl <;> rfl) (by rcases hv with rfl | rfl <;> rfl) (Nat.le_of_ble_eq_true rfl) hdg (fun H1 locs1 hP hD hS => kk H1 locs1 _ h ⟨hP, hD, hS⟩)
theorem gf_M_30_askTo (hC : fx_C p s m args meth c cc "PassedTokenModel" nL) (hK : va_K D vC (tyC cI cZ cT) s) (hw : fw D A H0 (wM ad cI cZ cT u v) H locs) (hdg : decode cc pc = .ok (.getfield 136, 3)) (kk : W p l e R s m args below meth c H locs cells slots Q (F0 m (pc + 3) ls (.int (v.1 23) :: rest))) : W p l e R s m args below meth c H locs cells slots Q (F0 m pc ls (.ref (ad 30) :: rest)) := va_get (D := D) (ci := 5) (v := .int (v.1 23)) (C := "PassedTokenModel") (T := F_Mod) (N := 29) hC.1 hC.2.1 hC.2.2.2.2.1 in_Mod hC.2.2.2.1 hK hw.1 30 rfl rfl 23 (by decide) (hC.2.2.2.2.1 _ kw_536) (fun _ h9 => h9) rfl hdg kk
theorem pf_M_30_askTo {K : ST → Option β} {x : Int32} (hC : fx_C p s m args meth c cc "PassedTokenModel" nL) (hK : va_K D vC (tyC cI cZ cT) s) (hw : fw D A H0 (wM ad cI cZ cT u v) H locs) (hdg : decode cc pc = .ok (.putfield 136, 3)) (h : k_let (ss v 23 x) K = some z) (kk : ∀ (H1 : Heap) (locs1 : List Loc) (u1 : ST), K u1 = some z → fw D A H0 (wM ad cI cZ cT u u1) H1 locs1 → W p l e R s m args below meth c H1 locs1 cells slots Q (F0 m (pc + 3) ls rest)) : W p l e R s m args below meth c H locs cells slots Q (F0 m pc ls (.int x :: .ref (ad 30) :: rest)) := va_put (D := D) (ci := 5) (v := .int x) (ty := .int) (C := "PassedTokenModel") (T := F_Mod) (N := 29) hC.1 hC.2.1 hC.2.2.2.2.1 in_Mod t_Mod t_Mod_ok n_Mod hC.2.2.2.1 hK hw.1 hw.2.1 hw.2.2 30 rfl rfl 23 (by decide) (hC.2.2.2.2.1 _ kw_536) (fun _ h9 => h9) rfl (by decide +kernel) rfl rfl (Nat.le_of_ble_eq_true rfl) hdg (fun H1 locs1 hP hD hS => kk H1 locs1 _ h ⟨hP, hD, hS⟩)
theorem gf_M_30_request (hC : fx_C p s m args meth c cc "PassedTokenModel" nL) (hK : va_K D vC (tyC cI cZ cT) s) (hw : fw D A H0 (wM ad cI cZ cT u v) H locs) (hdg : decode cc pc = .ok (.getfield 25, 3)) (kk : W p l e R s m args below meth c H locs cells slots Q (F0 m (pc + 3) ls (.ref (ad 36) :: rest))) : W p l e R s m args below meth c H locs cells slots Q (F0 m pc ls (.ref (ad 30) :: rest)) := va_get (D := D) (ci := 5) (v := .ref (ad 36)) (C := "PassedTokenModel") (T := F_Mod) (N := 29) hC.1 hC.2.1 hC.2.2.2.2.1 in_Mod hC.2.2.2.1 hK hw.1 30 rfl rfl 24 (by decide) (hC.2.2.2.2.1 _ kw_537) (fun _ h9 => h9) rfl hdg kk
theorem gf_M_30_values (hC : fx_C p s m args meth c cc "PassedTokenModel" nL) (hK : va_K D vC (tyC cI cZ cT) s) (hw : fw D A H0 (wM ad cI cZ cT u v) H locs) (hdg : decode cc pc = .ok (.getfield 28, 3)) (kk : W p l e R s m args below meth c H locs cells slots Q (F0 m (pc + 3) ls (.ref (ad 37) :: rest))) : W p l e R s m args below meth c H locs cells slots Q (F0 m pc ls (.ref (ad 30) :: rest)) := va_get (D := D) (ci := 5) (v := .ref (ad 37)) (C := "PassedTokenModel") (T := F_Mod) (N := 29) hC.1 hC.2.1 hC.2.2.2.2.1 in_Mod hC.2.2.2.1 hK hw.1 30 rfl rfl 25 (by decide) (hC.2.2.2.2.1 _ kw_538) (fun _ h9 => h9) rfl hdg kk
theorem gf_M_30_given (hC : fx_C p s m args meth c cc "PassedTokenModel" nL) (hK : va_K D vC (tyC cI cZ cT) s) (hw : fw D A H0 (wM ad cI cZ cT u v) H locs) (hdg : decode cc pc = .ok (.getfield 31, 3)) (kk : W p l e R s m args below meth c H locs cells slots Q (F0 m (pc + 3) ls (.ref (ad 38) :: rest))) : W p l e R s m args below meth c H locs cells slots Q (F0 m pc ls (.ref (ad 30) :: rest)) := va_get (D := D) (ci := 5) (v := .ref (ad 38)) (C := "PassedTokenModel") (T := F_Mod) (N := 29) hC.1 hC.2.1 hC.2.2.2.2.1 in_Mod hC.2.2.2.1 hK hw.1 30 rfl rfl 26 (by decide) (hC.2.2.2.2.1 _ kw_539) (fun _ h9 => h9) rfl hdg kk
theorem gf_M_30_at (hC : fx_C p s m args meth c cc "PassedTokenModel" nL) (hK : va_K D vC (tyC cI cZ cT) s) (hw : fw D A H0 (wM ad cI cZ cT u v) H locs) (hdg : decode cc pc = .ok (.getfield 168, 3)) (kk : W p l e R s m args below meth c H locs cells slots Q (F0 m (pc + 3) ls (.int (v.1 27) :: rest))) : W p l e R s m args below meth c H locs cells slots Q (F0 m pc ls (.ref (ad 30) :: rest)) := va_get (D := D) (ci := 5) (v := .int (v.1 27)) (C := "PassedTokenModel") (T := F_Mod) (N := 29) hC.1 hC.2.1 hC.2.2.2.2.1 in_Mod hC.2.2.2.1 hK hw.1 30 rfl rfl 27 (by decide) (hC.2.2.2.2.1 _ kw_540) (fun _ h9 => h9) rfl hdg kk
theorem pf_M_30_at {K : ST → Option β} {x : Int32} (hC : fx_C p s m args meth c cc "PassedTokenModel" nL) (hK : va_K D vC (tyC cI cZ cT) s) (hw : fw D A H0 (wM ad cI cZ cT u v) H locs) (hdg : decode cc pc = .ok (.putfield 168, 3)) (h : k_let (ss v 27 x) K = some z) (kk : ∀ (H1 : Heap) (locs1 : List Loc) (u1 : ST), K u1 = some z → fw D A H0 (wM ad cI cZ cT u u1) H1 locs1 → W p l e R s m args below meth c H1 locs1 cells slots Q (F0 m (pc + 3) ls rest)) : W p l e R s m args below meth c H locs cells slots Q (F0 m pc ls (.int x :: .ref (ad 30) :: rest)) := va_put (D := D) (ci := 5) (v := .int x) (ty := .int) (C := "PassedTokenModel") (T := F_Mod) (N := 29) hC.1 hC.2.1 hC.2.2.2.2.1 in_Mod t_Mod t_Mod_ok n_Mod hC.2.2.2.1 hK hw.1 hw.2.1 hw.2.2 30 rfl rfl 27 (by decide) (hC.2.2.2.2.1 _ kw_540) (fun _ h9 => h9) rfl (by decide +kernel) rfl rfl (Nat.le_of_ble_eq_true rfl) hdg (fun H1 locs1 hP hD hS => kk H1 locs1 _ h ⟨hP, hD, hS⟩)
theorem gf_M_30_fine (hC : fx_C p s m args meth c cc "PassedTokenModel" nL) (hK : va_K D vC (tyC cI cZ cT) s) (hw : fw D A H0 (wM ad cI cZ cT u v) H locs) (hdg : decode cc pc = .ok (.getfield 165, 3)) (kk : W p l e R s m args below meth c H locs cells slots Q (F0 m (pc + 3) ls (.int (v.1 28) :: rest))) : W p l e R s m args below meth c H locs cells slots Q (F0 m pc ls (.ref (ad 30) :: rest)) := va_get (D := D) (ci := 5) (v := .int (v.1 28)) (C := "PassedTokenModel") (T := F_Mod) (N := 29) hC.1 hC.2.1 hC.2.2.2.2.1 in_Mod hC.2.2.2.1 hK hw.1 30 rfl rfl 28 (by decide) (hC.2.2.2.2.1 _ kw_541) (fun _ h9 => h9) rfl hdg kk
theorem pf_M_30_fine {K : ST → Option β} {x : Int32} (hC : fx_C p s m args meth c cc "PassedTokenModel" nL) (hK : va_K D vC (tyC cI cZ cT) s) (hw : fw D A H0 (wM ad cI cZ cT u v) H locs) (hv : isz x) (hdg : decode cc pc = .ok (.putfield 165, 3)) (h : k_let (ss v 28 x) K = some z) (kk : ∀ (H1 : Heap) (locs1 : List Loc) (u1 : ST), K u1 = some z → fw D A H0 (wM ad cI cZ cT u u1) H1 locs1 → W p l e R s m args below meth c H1 locs1 cells slots Q (F0 m (pc + 3) ls rest)) : W p l e R s m args below meth c H locs cells slots Q (F0 m pc ls (.int x :: .ref (ad 30) :: rest)) := va_put (D := D) (ci := 5) (v := .int x) (ty := .boolean) (C := "PassedTokenModel") (T := F_Mod) (N := 29) hC.1 hC.2.1 hC.2.2.2.2.1 in_Mod t_Mod t_Mod_ok n_Mod hC.2.2.2.1 hK hw.1 hw.2.1 hw.2.2 30 rfl rfl 28 (by decide) (hC.2.2.2.2.1 _ kw_541) (fun _ h9 => h9) rfl (by decide +kernel) (by rcases hv with rfl | rfl <;> rfl) (by rcases hv with rfl | rfl <;> rfl) (Nat.le_of_ble_eq_true rfl) hdg (fun H1 locs1 hP hD hS => kk H1 locs1 _ h ⟨hP, hD, hS⟩)
theorem al_M_31 {K : Option β} {i : Int32} (hC : fx_C p s m args meth c cc own nL) (hK : va_K D vC (tyC cI cZ cT) s) (hw : fw D A H0 (wM ad cI cZ cT u v) H locs) (hdg : decode cc pc = .ok (.iaload, 1)) (h : k_gd (inb i 6) K = some z) (kk : K = some z → W p l e R s m args below meth c H locs cells slots Q (F0 m (pc + 1) ls (.int (v.2 0 i.toNatClampNeg) :: rest))) : W p l e R s m args below meth c H locs cells slots Q (F0 m pc ls (.int i :: .ref (ad 31) :: rest)) := va_iald hC.1 hC.2.1 hK hw.1 31 0 rfl rfl (inb_vp (k_gd_some h).1) hdg (kk (k_gd_some h).2)
theorem as_M_31 {K : ST → Option β} {x : Int32} {i : Int32} (hC : fx_C p s m args meth c cc own nL) (hK : va_K D vC (tyC cI cZ cT) s) (hw : fw D A H0 (wM ad cI cZ cT u v) H locs) (hdg : decode cc pc = .ok (.iastore, 1)) (h : k_gd (inb i 6) (k_let (rs v 0 i.toNatClampNeg x) K) = some z) (kk : ∀ (H1 : Heap) (locs1 : List Loc) (u1 : ST), K u1 = some z → fw D A H0 (wM ad cI cZ cT u u1) H1 locs1 → W p l e R s m args below meth c H1 locs1 cells slots Q (F0 m (pc + 1) ls rest)) : W p l e R s m args below meth c H locs cells slots Q (F0 m pc ls (.int x :: .int i :: .ref (ad 31) :: rest)) := va_iast hC.1 hC.2.1 hK hw.1 hw.2.1 hw.2.2 31 0 rfl rfl (inb_vp (k_gd_some h).1) hdg (fun H1 locs1 hP hD hS => kk H1 locs1 _ (k_gd_some h).2 ⟨hP, hD, hS⟩)
theorem ln_M_31 (hC : fx_C p s m args meth c cc own nL) (hK : va_K D vC (tyC cI cZ cT) s) (hw : fw D A H0 (wM ad cI cZ cT u v) H locs) (hdg : decode cc pc = .ok (.arraylength, 1)) (kk : W p l e R s m args below meth c H locs cells slots Q (F0 m (pc + 1) ls (.int 6 :: rest))) : W p l e R s m args below meth c H locs cells slots Q (F0 m pc ls (.ref (ad 31) :: rest)) := va_alen hC.1 hC.2.1 hK hw.1 31 0 rfl rfl rfl hdg kk
theorem al_M_32 {K : Option β} {i : Int32} (hC : fx_C p s m args meth c cc own nL) (hK : va_K D vC (tyC cI cZ cT) s) (hw : fw D A H0 (wM ad cI cZ cT u v) H locs) (hdg : decode cc pc = .ok (.iaload, 1)) (h : k_gd (inb i 42) K = some z) (kk : K = some z → W p l e R s m args below meth c H locs cells slots Q (F0 m (pc + 1) ls (.int (v.2 1 i.toNatClampNeg) :: rest))) : W p l e R s m args below meth c H locs cells slots Q (F0 m pc ls (.int i :: .ref (ad 32) :: rest)) := va_iald hC.1 hC.2.1 hK hw.1 32 0 rfl rfl (inb_vp (k_gd_some h).1) hdg (kk (k_gd_some h).2)
theorem as_M_32 {K : ST → Option β} {x : Int32} {i : Int32} (hC : fx_C p s m args meth c cc own nL) (hK : va_K D vC (tyC cI cZ cT) s) (hw : fw D A H0 (wM ad cI cZ cT u v) H locs) (hdg : decode cc pc = .ok (.iastore, 1)) (h : k_gd (inb i 42) (k_let (rs v 1 i.toNatClampNeg x) K) = some z) (kk : ∀ (H1 : Heap) (locs1 : List Loc) (u1 : ST), K u1 = some z → fw D A H0 (wM ad cI cZ cT u u1) H1 locs1 → W p l e R s m args below meth c H1 locs1 cells slots Q (F0 m (pc + 1) ls rest)) : W p l e R s m args below meth c H locs cells slots Q (F0 m pc ls (.int x :: .int i :: .ref (ad 32) :: rest)) := va_iast hC.1 hC.2.1 hK hw.1 hw.2.1 hw.2.2 32 0 rfl rfl (inb_vp (k_gd_some h).1) hdg (fun H1 locs1 hP hD hS => kk H1 locs1 _ (k_gd_some h).2 ⟨hP, hD, hS⟩)
theorem ln_M_32 (hC : fx_C p s m args meth c cc own nL) (hK : va_K D vC (tyC cI cZ cT) s) (hw : fw D A H0 (wM ad cI cZ cT u v) H locs) (hdg : decode cc pc = .ok (.arraylength, 1)) (kk : W p l e R s m args below meth c H locs cells slots Q (F0 m (pc + 1) ls (.int 42 :: rest))) : W p l e R s m args below meth c H locs cells slots Q (F0 m pc ls (.ref (ad 32) :: rest)) := va_alen hC.1 hC.2.1 hK hw.1 32 0 rfl rfl rfl hdg kk
theorem al_M_33 {K : Option β} {i : Int32} (hC : fx_C p s m args meth c cc own nL) (hK : va_K D vC (tyC cI cZ cT) s) (hw : fw D A H0 (wM ad cI cZ cT u v) H locs) (hdg : decode cc pc = .ok (.iaload, 1)) (h : k_gd (inb i 1024) K = some z) (kk : K = some z → W p l e R s m args below meth c H locs cells slots Q (F0 m (pc + 1) ls (.int (v.2 2 i.toNatClampNeg) :: rest))) : W p l e R s m args below meth c H locs cells slots Q (F0 m pc ls (.int i :: .ref (ad 33) :: rest)) := va_iald hC.1 hC.2.1 hK hw.1 33 0 rfl rfl (inb_vp (k_gd_some h).1) hdg (kk (k_gd_some h).2)
theorem as_M_33 {K : ST → Option β} {x : Int32} {i : Int32} (hC : fx_C p s m args meth c cc own nL) (hK : va_K D vC (tyC cI cZ cT) s) (hw : fw D A H0 (wM ad cI cZ cT u v) H locs) (hdg : decode cc pc = .ok (.iastore, 1)) (h : k_gd (inb i 1024) (k_let (rs v 2 i.toNatClampNeg x) K) = some z) (kk : ∀ (H1 : Heap) (locs1 : List Loc) (u1 : ST), K u1 = some z → fw D A H0 (wM ad cI cZ cT u u1) H1 locs1 → W p l e R s m args below meth c H1 locs1 cells slots Q (F0 m (pc + 1) ls rest)) : W p l e R s m args below meth c H locs cells slots Q (F0 m pc ls (.int x :: .int i :: .ref (ad 33) :: rest)) := va_iast hC.1 hC.2.1 hK hw.1 hw.2.1 hw.2.2 33 0 rfl rfl (inb_vp (k_gd_some h).1) hdg (fun H1 locs1 hP hD hS => kk H1 locs1 _ (k_gd_some h).2 ⟨hP, hD, hS⟩)
theorem ln_M_33 (hC : fx_C p s m args meth c cc own nL) (hK : va_K D vC (tyC cI cZ cT) s) (hw : fw D A H0 (wM ad cI cZ cT u v) H locs) (hdg : decode cc pc = .ok (.arraylength, 1)) (kk : W p l e R s m args below meth c H locs cells slots Q (F0 m (pc + 1) ls (.int 1024 :: rest))) : W p l e R s m args below meth c H locs cells slots Q (F0 m pc ls (.ref (ad 33) :: rest)) := va_alen hC.1 hC.2.1 hK hw.1 33 0 rfl rfl rfl hdg kk
theorem al_M_34 {K : Option β} {i : Int32} (hC : fx_C p s m args meth c cc own nL) (hK : va_K D vC (tyC cI cZ cT) s) (hw : fw D A H0 (wM ad cI cZ cT u v) H locs) (hdg : decode cc pc = .ok (.iaload, 1)) (h : k_gd (inb i 48) K = some z) (kk : K = some z → W p l e R s m args below meth c H locs cells slots Q (F0 m (pc + 1) ls (.int (v.2 3 i.toNatClampNeg) :: rest))) : W p l e R s m args below meth c H locs cells slots Q (F0 m pc ls (.int i :: .ref (ad 34) :: rest)) := va_iald hC.1 hC.2.1 hK hw.1 34 0 rfl rfl (inb_vp (k_gd_some h).1) hdg (kk (k_gd_some h).2)
theorem as_M_34 {K : ST → Option β} {x : Int32} {i : Int32} (hC : fx_C p s m args meth c cc own nL) (hK : va_K D vC (tyC cI cZ cT) s) (hw : fw D A H0 (wM ad cI cZ cT u v) H locs) (hdg : decode cc pc = .ok (.iastore, 1)) (h : k_gd (inb i 48) (k_let (rs v 3 i.toNatClampNeg x) K) = some z) (kk : ∀ (H1 : Heap) (locs1 : List Loc) (u1 : ST), K u1 = some z → fw D A H0 (wM ad cI cZ cT u u1) H1 locs1 → W p l e R s m args below meth c H1 locs1 cells slots Q (F0 m (pc + 1) ls rest)) : W p l e R s m args below meth c H locs cells slots Q (F0 m pc ls (.int x :: .int i :: .ref (ad 34) :: rest)) := va_iast hC.1 hC.2.1 hK hw.1 hw.2.1 hw.2.2 34 0 rfl rfl (inb_vp (k_gd_some h).1) hdg (fun H1 locs1 hP hD hS => kk H1 locs1 _ (k_gd_some h).2 ⟨hP, hD, hS⟩)
theorem ln_M_34 (hC : fx_C p s m args meth c cc own nL) (hK : va_K D vC (tyC cI cZ cT) s) (hw : fw D A H0 (wM ad cI cZ cT u v) H locs) (hdg : decode cc pc = .ok (.arraylength, 1)) (kk : W p l e R s m args below meth c H locs cells slots Q (F0 m (pc + 1) ls (.int 48 :: rest))) : W p l e R s m args below meth c H locs cells slots Q (F0 m pc ls (.ref (ad 34) :: rest)) := va_alen hC.1 hC.2.1 hK hw.1 34 0 rfl rfl rfl hdg kk
theorem al_M_35 {K : Option β} {i : Int32} (hC : fx_C p s m args meth c cc own nL) (hK : va_K D vC (tyC cI cZ cT) s) (hw : fw D A H0 (wM ad cI cZ cT u v) H locs) (hdg : decode cc pc = .ok (.iaload, 1)) (h : k_gd (inb i 40) K = some z) (kk : K = some z → W p l e R s m args below meth c H locs cells slots Q (F0 m (pc + 1) ls (.int (v.2 4 i.toNatClampNeg) :: rest))) : W p l e R s m args below meth c H locs cells slots Q (F0 m pc ls (.int i :: .ref (ad 35) :: rest)) := va_iald hC.1 hC.2.1 hK hw.1 35 0 rfl rfl (inb_vp (k_gd_some h).1) hdg (kk (k_gd_some h).2)
theorem as_M_35 {K : ST → Option β} {x : Int32} {i : Int32} (hC : fx_C p s m args meth c cc own nL) (hK : va_K D vC (tyC cI cZ cT) s) (hw : fw D A H0 (wM ad cI cZ cT u v) H locs) (hdg : decode cc pc = .ok (.iastore, 1)) (h : k_gd (inb i 40) (k_let (rs v 4 i.toNatClampNeg x) K) = some z) (kk : ∀ (H1 : Heap) (locs1 : List Loc) (u1 : ST), K u1 = some z → fw D A H0 (wM ad cI cZ cT u u1) H1 locs1 → W p l e R s m args below meth c H1 locs1 cells slots Q (F0 m (pc + 1) ls rest)) : W p l e R s m args below meth c H locs cells slots Q (F0 m pc ls (.int x :: .int i :: .ref (ad 35) :: rest)) := va_iast hC.1 hC.2.1 hK hw.1 hw.2.1 hw.2.2 35 0 rfl rfl (inb_vp (k_gd_some h).1) hdg (fun H1 locs1 hP hD hS => kk H1 locs1 _ (k_gd_some h).2 ⟨hP, hD, hS⟩)
theorem ln_M_35 (hC : fx_C p s m args meth c cc own nL) (hK : va_K D vC (tyC cI cZ cT) s) (hw : fw D A H0 (wM ad cI cZ cT u v) H locs) (hdg : decode cc pc = .ok (.arraylength, 1)) (kk : W p l e R s m args below meth c H locs cells slots Q (F0 m (pc + 1) ls (.int 40 :: rest))) : W p l e R s m args below meth c H locs cells slots Q (F0 m pc ls (.ref (ad 35) :: rest)) := va_alen hC.1 hC.2.1 hK hw.1 35 0 rfl rfl rfl hdg kk
theorem al_M_36 {K : Option β} {i : Int32} (hC : fx_C p s m args meth c cc own nL) (hK : va_K D vC (tyC cI cZ cT) s) (hw : fw D A H0 (wM ad cI cZ cT u v) H locs) (hdg : decode cc pc = .ok (.iaload, 1)) (h : k_gd (inb i 13) K = some z) (kk : K = some z → W p l e R s m args below meth c H locs cells slots Q (F0 m (pc + 1) ls (.int (v.2 5 i.toNatClampNeg) :: rest))) : W p l e R s m args below meth c H locs cells slots Q (F0 m pc ls (.int i :: .ref (ad 36) :: rest)) := va_iald hC.1 hC.2.1 hK hw.1 36 0 rfl rfl (inb_vp (k_gd_some h).1) hdg (kk (k_gd_some h).2)
theorem as_M_36 {K : ST → Option β} {x : Int32} {i : Int32} (hC : fx_C p s m args meth c cc own nL) (hK : va_K D vC (tyC cI cZ cT) s) (hw : fw D A H0 (wM ad cI cZ cT u v) H locs) (hdg : decode cc pc = .ok (.iastore, 1)) (h : k_gd (inb i 13) (k_let (rs v 5 i.toNatClampNeg x) K) = some z) (kk : ∀ (H1 : Heap) (locs1 : List Loc) (u1 : ST), K u1 = some z → fw D A H0 (wM ad cI cZ cT u u1) H1 locs1 → W p l e R s m args below meth c H1 locs1 cells slots Q (F0 m (pc + 1) ls rest)) : W p l e R s m args below meth c H locs cells slots Q (F0 m pc ls (.int x :: .int i :: .ref (ad 36) :: rest)) := va_iast hC.1 hC.2.1 hK hw.1 hw.2.1 hw.2.2 36 0 rfl rfl (inb_vp (k_gd_some h).1) hdg (fun H1 locs1 hP hD hS => kk H1 locs1 _ (k_gd_some h).2 ⟨hP, hD, hS⟩)
theorem ln_M_36 (hC : fx_C p s m args meth c cc own nL) (hK : va_K D vC (tyC cI cZ cT) s) (hw : fw D A H0 (wM ad cI cZ cT u v) H locs) (hdg : decode cc pc = .ok (.arraylength, 1)) (kk : W p l e R s m args below meth c H locs cells slots Q (F0 m (pc + 1) ls (.int 13 :: rest))) : W p l e R s m args below meth c H locs cells slots Q (F0 m pc ls (.ref (ad 36) :: rest)) := va_alen hC.1 hC.2.1 hK hw.1 36 0 rfl rfl rfl hdg kk
theorem al_M_37 {K : Option β} {i : Int32} (hC : fx_C p s m args meth c cc own nL) (hK : va_K D vC (tyC cI cZ cT) s) (hw : fw D A H0 (wM ad cI cZ cT u v) H locs) (hdg : decode cc pc = .ok (.iaload, 1)) (h : k_gd (inb i 68) K = some z) (kk : K = some z → W p l e R s m args below meth c H locs cells slots Q (F0 m (pc + 1) ls (.int (v.2 6 i.toNatClampNeg) :: rest))) : W p l e R s m args below meth c H locs cells slots Q (F0 m pc ls (.int i :: .ref (ad 37) :: rest)) := va_iald hC.1 hC.2.1 hK hw.1 37 0 rfl rfl (inb_vp (k_gd_some h).1) hdg (kk (k_gd_some h).2)
theorem as_M_37 {K : ST → Option β} {x : Int32} {i : Int32} (hC : fx_C p s m args meth c cc own nL) (hK : va_K D vC (tyC cI cZ cT) s) (hw : fw D A H0 (wM ad cI cZ cT u v) H locs) (hdg : decode cc pc = .ok (.iastore, 1)) (h : k_gd (inb i 68) (k_let (rs v 6 i.toNatClampNeg x) K) = some z) (kk : ∀ (H1 : Heap) (locs1 : List Loc) (u1 : ST), K u1 = some z → fw D A H0 (wM ad cI cZ cT u u1) H1 locs1 → W p l e R s m args below meth c H1 locs1 cells slots Q (F0 m (pc + 1) ls rest)) : W p l e R s m args below meth c H locs cells slots Q (F0 m pc ls (.int x :: .int i :: .ref (ad 37) :: rest)) := va_iast hC.1 hC.2.1 hK hw.1 hw.2.1 hw.2.2 37 0 rfl rfl (inb_vp (k_gd_some h).1) hdg (fun H1 locs1 hP hD hS => kk H1 locs1 _ (k_gd_some h).2 ⟨hP, hD, hS⟩)
theorem ln_M_37 (hC : fx_C p s m args meth c cc own nL) (hK : va_K D vC (tyC cI cZ cT) s) (hw : fw D A H0 (wM ad cI cZ cT u v) H locs) (hdg : decode cc pc = .ok (.arraylength, 1)) (kk : W p l e R s m args below meth c H locs cells slots Q (F0 m (pc + 1) ls (.int 68 :: rest))) : W p l e R s m args below meth c H locs cells slots Q (F0 m pc ls (.ref (ad 37) :: rest)) := va_alen hC.1 hC.2.1 hK hw.1 37 0 rfl rfl rfl hdg kk
theorem al_M_38 {K : Option β} {i : Int32} (hC : fx_C p s m args meth c cc own nL) (hK : va_K D vC (tyC cI cZ cT) s) (hw : fw D A H0 (wM ad cI cZ cT u v) H locs) (hdg : decode cc pc = .ok (.baload, 1)) (h : k_gd (inb i 68) K = some z) (kk : K = some z → W p l e R s m args below meth c H locs cells slots Q (F0 m (pc + 1) ls (.int (v.2 7 i.toNatClampNeg) :: rest))) : W p l e R s m args below meth c H locs cells slots Q (F0 m pc ls (.int i :: .ref (ad 38) :: rest)) := va_zald hC.1 hC.2.1 hK hw.1 38 1 rfl rfl (inb_vp (k_gd_some h).1) hdg (kk (k_gd_some h).2)
theorem as_M_38 {K : ST → Option β} {x : Int32} {i : Int32} (hC : fx_C p s m args meth c cc own nL) (hK : va_K D vC (tyC cI cZ cT) s) (hw : fw D A H0 (wM ad cI cZ cT u v) H locs) (hv : isz x) (hdg : decode cc pc = .ok (.bastore, 1)) (h : k_gd (inb i 68) (k_let (rs v 7 i.toNatClampNeg x) K) = some z) (kk : ∀ (H1 : Heap) (locs1 : List Loc) (u1 : ST), K u1 = some z → fw D A H0 (wM ad cI cZ cT u u1) H1 locs1 → W p l e R s m args below meth c H1 locs1 cells slots Q (F0 m (pc + 1) ls rest)) : W p l e R s m args below meth c H locs cells slots Q (F0 m pc ls (.int x :: .int i :: .ref (ad 38) :: rest)) := by
  have hn := isz_vp hv
  refine va_zast hC.1 hC.2.1 hK hw.1 hw.2.1 hw.2.2 38 1 rfl rfl (inb_vp (k_gd_some h).1) hdg (fun H1 locs1 hP hD hS => ?_)
  rw [hn] at hP hD
  exact kk H1 locs1 _ (k_gd_some h).2 ⟨hP, hD, hS⟩
theorem ln_M_38 (hC : fx_C p s m args meth c cc own nL) (hK : va_K D vC (tyC cI cZ cT) s) (hw : fw D A H0 (wM ad cI cZ cT u v) H locs) (hdg : decode cc pc = .ok (.arraylength, 1)) (kk : W p l e R s m args below meth c H locs cells slots Q (F0 m (pc + 1) ls (.int 68 :: rest))) : W p l e R s m args below meth c H locs cells slots Q (F0 m pc ls (.ref (ad 38) :: rest)) := va_alen hC.1 hC.2.1 hK hw.1 38 1 rfl rfl rfl hdg kk
end
end
