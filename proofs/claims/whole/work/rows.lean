section
-- ===== PART A: goes FIRST, ahead of the names: the tables' words, and 'selects' of the private methods out of them =====
/-- a private method of a class that the tables say can be made, by its rows of tables_1 -/
def lw_okq (q : MethodName × Nat) : Prop := (q.1.cls ≠ "java/lang/invoke/MethodHandle" ∧ q.1.cls ≠ "java/lang/invoke/VarHandle") ∧ Cond.instantiable q.1.cls q.2 ∈ tables_1 ∧ Cond.privateMethod q.1 ∈ tables_1 ∧ Cond.instanceMethod q.1 ∈ tables_1
theorem lw_p0 : lw_okq (⟨"ChoiceBench", "procIn", "(II)LChoiceBench$Proc;"⟩, 9) := ⟨⟨by decide +kernel, by decide +kernel⟩, List.mem_of_getElem? (i := 12) (by decide +kernel), List.mem_of_getElem? (i := 252) (by decide +kernel), List.mem_of_getElem? (i := 253) (by decide +kernel)⟩
theorem lw_p1 : lw_okq (⟨"ChoiceBench", "procAt", "(I)LChoiceBench$Proc;"⟩, 9) := ⟨⟨by decide +kernel, by decide +kernel⟩, List.mem_of_getElem? (i := 12) (by decide +kernel), List.mem_of_getElem? (i := 256) (by decide +kernel), List.mem_of_getElem? (i := 257) (by decide +kernel)⟩
theorem lw_p2 : lw_okq (⟨"ChoiceBench", "listAt", "(I)LChoiceBench$EntryList;"⟩, 9) := ⟨⟨by decide +kernel, by decide +kernel⟩, List.mem_of_getElem? (i := 12) (by decide +kernel), List.mem_of_getElem? (i := 272) (by decide +kernel), List.mem_of_getElem? (i := 273) (by decide +kernel)⟩
theorem lw_p3 : lw_okq (⟨"ChoiceBench", "access", "(LChoiceBench$Proc;)V"⟩, 9) := ⟨⟨by decide +kernel, by decide +kernel⟩, List.mem_of_getElem? (i := 12) (by decide +kernel), List.mem_of_getElem? (i := 309) (by decide +kernel), List.mem_of_getElem? (i := 310) (by decide +kernel)⟩
theorem lw_p4 : lw_okq (⟨"ChoiceBench", "runOutOfTime", "(LChoiceBench$Proc;)V"⟩, 9) := ⟨⟨by decide +kernel, by decide +kernel⟩, List.mem_of_getElem? (i := 12) (by decide +kernel), List.mem_of_getElem? (i := 321) (by decide +kernel), List.mem_of_getElem? (i := 322) (by decide +kernel)⟩
theorem lw_p5 : lw_okq (⟨"ChoiceBench", "putOut", "(LChoiceBench$Proc;I)V"⟩, 9) := ⟨⟨by decide +kernel, by decide +kernel⟩, List.mem_of_getElem? (i := 12) (by decide +kernel), List.mem_of_getElem? (i := 325) (by decide +kernel), List.mem_of_getElem? (i := 326) (by decide +kernel)⟩
theorem lw_p6 : lw_okq (⟨"ChoiceBench", "noteDouble", "(LChoiceBench$Proc;)V"⟩, 9) := ⟨⟨by decide +kernel, by decide +kernel⟩, List.mem_of_getElem? (i := 12) (by decide +kernel), List.mem_of_getElem? (i := 330) (by decide +kernel), List.mem_of_getElem? (i := 331) (by decide +kernel)⟩
theorem lw_p7 : lw_okq (⟨"ChoiceBench", "publishEntry", "(LChoiceBench$Proc;)V"⟩, 9) := ⟨⟨by decide +kernel, by decide +kernel⟩, List.mem_of_getElem? (i := 12) (by decide +kernel), List.mem_of_getElem? (i := 342) (by decide +kernel), List.mem_of_getElem? (i := 343) (by decide +kernel)⟩
theorem lw_p8 : lw_okq (⟨"ChoiceBench", "lookOn", "(LChoiceBench$Proc;)V"⟩, 9) := ⟨⟨by decide +kernel, by decide +kernel⟩, List.mem_of_getElem? (i := 12) (by decide +kernel), List.mem_of_getElem? (i := 402) (by decide +kernel), List.mem_of_getElem? (i := 403) (by decide +kernel)⟩
theorem lw_p9 : lw_okq (⟨"ChoiceBench", "withdrawEntry", "(LChoiceBench$Proc;)V"⟩, 9) := ⟨⟨by decide +kernel, by decide +kernel⟩, List.mem_of_getElem? (i := 12) (by decide +kernel), List.mem_of_getElem? (i := 432) (by decide +kernel), List.mem_of_getElem? (i := 433) (by decide +kernel)⟩
theorem lw_p10 : lw_okq (⟨"ChoiceBench", "accessToMeet", "(LChoiceBench$Proc;)V"⟩, 9) := ⟨⟨by decide +kernel, by decide +kernel⟩, List.mem_of_getElem? (i := 12) (by decide +kernel), List.mem_of_getElem? (i := 441) (by decide +kernel), List.mem_of_getElem? (i := 442) (by decide +kernel)⟩
theorem lw_p11 : lw_okq (⟨"ChoiceBench", "claimLower", "(LChoiceBench$Proc;LChoiceBench$Proc;LChoiceBench$Entry;)V"⟩, 9) := ⟨⟨by decide +kernel, by decide +kernel⟩, List.mem_of_getElem? (i := 12) (by decide +kernel), List.mem_of_getElem? (i := 445) (by decide +kernel), List.mem_of_getElem? (i := 446) (by decide +kernel)⟩
theorem lw_p12 : lw_okq (⟨"ChoiceBench", "tryWord", "(LChoiceBench$Proc;LChoiceBench$Proc;LChoiceBench$Entry;)Z"⟩, 9) := ⟨⟨by decide +kernel, by decide +kernel⟩, List.mem_of_getElem? (i := 12) (by decide +kernel), List.mem_of_getElem? (i := 449) (by decide +kernel), List.mem_of_getElem? (i := 450) (by decide +kernel)⟩
theorem lw_p13 : lw_okq (⟨"ChoiceBench", "claimHigher", "(LChoiceBench$Proc;LChoiceBench$Proc;LChoiceBench$Entry;LChoiceBench$Guard;)V"⟩, 9) := ⟨⟨by decide +kernel, by decide +kernel⟩, List.mem_of_getElem? (i := 12) (by decide +kernel), List.mem_of_getElem? (i := 468) (by decide +kernel), List.mem_of_getElem? (i := 469) (by decide +kernel)⟩
theorem lw_p14 : lw_okq (⟨"ChoiceBench", "recordPair", "(LChoiceBench$Proc;LChoiceBench$Proc;LChoiceBench$Entry;LChoiceBench$Guard;)V"⟩, 9) := ⟨⟨by decide +kernel, by decide +kernel⟩, List.mem_of_getElem? (i := 12) (by decide +kernel), List.mem_of_getElem? (i := 472) (by decide +kernel), List.mem_of_getElem? (i := 473) (by decide +kernel)⟩
theorem lw_p15 : lw_okq (⟨"ChoiceBench", "giveBack", "(LChoiceBench$Proc;LChoiceBench$Proc;)V"⟩, 9) := ⟨⟨by decide +kernel, by decide +kernel⟩, List.mem_of_getElem? (i := 12) (by decide +kernel), List.mem_of_getElem? (i := 480) (by decide +kernel), List.mem_of_getElem? (i := 481) (by decide +kernel)⟩
def lw_privs_1 : List (MethodName × Nat) := [(⟨"ChoiceBench", "procIn", "(II)LChoiceBench$Proc;"⟩, 9), (⟨"ChoiceBench", "procAt", "(I)LChoiceBench$Proc;"⟩, 9), (⟨"ChoiceBench", "listAt", "(I)LChoiceBench$EntryList;"⟩, 9), (⟨"ChoiceBench", "access", "(LChoiceBench$Proc;)V"⟩, 9), (⟨"ChoiceBench", "runOutOfTime", "(LChoiceBench$Proc;)V"⟩, 9), (⟨"ChoiceBench", "putOut", "(LChoiceBench$Proc;I)V"⟩, 9), (⟨"ChoiceBench", "noteDouble", "(LChoiceBench$Proc;)V"⟩, 9), (⟨"ChoiceBench", "publishEntry", "(LChoiceBench$Proc;)V"⟩, 9), (⟨"ChoiceBench", "lookOn", "(LChoiceBench$Proc;)V"⟩, 9), (⟨"ChoiceBench", "withdrawEntry", "(LChoiceBench$Proc;)V"⟩, 9), (⟨"ChoiceBench", "accessToMeet", "(LChoiceBench$Proc;)V"⟩, 9), (⟨"ChoiceBench", "claimLower", "(LChoiceBench$Proc;LChoiceBench$Proc;LChoiceBench$Entry;)V"⟩, 9), (⟨"ChoiceBench", "tryWord", "(LChoiceBench$Proc;LChoiceBench$Proc;LChoiceBench$Entry;)Z"⟩, 9), (⟨"ChoiceBench", "claimHigher", "(LChoiceBench$Proc;LChoiceBench$Proc;LChoiceBench$Entry;LChoiceBench$Guard;)V"⟩, 9), (⟨"ChoiceBench", "recordPair", "(LChoiceBench$Proc;LChoiceBench$Proc;LChoiceBench$Entry;LChoiceBench$Guard;)V"⟩, 9), (⟨"ChoiceBench", "giveBack", "(LChoiceBench$Proc;LChoiceBench$Proc;)V"⟩, 9)]
theorem lw_r1 : ∀ q ∈ lw_privs_1, lw_okq q := List.forall_mem_cons.mpr ⟨lw_p0, List.forall_mem_cons.mpr ⟨lw_p1, List.forall_mem_cons.mpr ⟨lw_p2, List.forall_mem_cons.mpr ⟨lw_p3, List.forall_mem_cons.mpr ⟨lw_p4, List.forall_mem_cons.mpr ⟨lw_p5, List.forall_mem_cons.mpr ⟨lw_p6, List.forall_mem_cons.mpr ⟨lw_p7, List.forall_mem_cons.mpr ⟨lw_p8, List.forall_mem_cons.mpr ⟨lw_p9, List.forall_mem_cons.mpr ⟨lw_p10, List.forall_mem_cons.mpr ⟨lw_p11, List.forall_mem_cons.mpr ⟨lw_p12, List.forall_mem_cons.mpr ⟨lw_p13, List.forall_mem_cons.mpr ⟨lw_p14, List.forall_mem_cons.mpr ⟨lw_p15, fun _ h => absurd h List.not_mem_nil⟩⟩⟩⟩⟩⟩⟩⟩⟩⟩⟩⟩⟩⟩⟩⟩
theorem lw_p16 : lw_okq (⟨"ChoiceBench", "tellOther", "(LChoiceBench$Proc;LChoiceBench$Proc;LChoiceBench$Guard;)V"⟩, 9) := ⟨⟨by decide +kernel, by decide +kernel⟩, List.mem_of_getElem? (i := 12) (by decide +kernel), List.mem_of_getElem? (i := 484) (by decide +kernel), List.mem_of_getElem? (i := 485) (by decide +kernel)⟩
theorem lw_p17 : lw_okq (⟨"ChoiceBench", "takeOwn", "(LChoiceBench$Proc;LChoiceBench$Entry;LChoiceBench$Guard;)V"⟩, 9) := ⟨⟨by decide +kernel, by decide +kernel⟩, List.mem_of_getElem? (i := 12) (by decide +kernel), List.mem_of_getElem? (i := 492) (by decide +kernel), List.mem_of_getElem? (i := 493) (by decide +kernel)⟩
theorem lw_p18 : lw_okq (⟨"ChoiceBench", "present", "()I"⟩, 9) := ⟨⟨by decide +kernel, by decide +kernel⟩, List.mem_of_getElem? (i := 12) (by decide +kernel), List.mem_of_getElem? (i := 585) (by decide +kernel), List.mem_of_getElem? (i := 586) (by decide +kernel)⟩
theorem lw_p19 : lw_okq (⟨"ChoiceBench", "listed", "()I"⟩, 9) := ⟨⟨by decide +kernel, by decide +kernel⟩, List.mem_of_getElem? (i := 12) (by decide +kernel), List.mem_of_getElem? (i := 589) (by decide +kernel), List.mem_of_getElem? (i := 590) (by decide +kernel)⟩
theorem lw_p20 : lw_okq (⟨"ChoiceBenchModel", "isIn", "(II)Z"⟩, 41) := ⟨⟨by decide +kernel, by decide +kernel⟩, List.mem_of_getElem? (i := 596) (by decide +kernel), List.mem_of_getElem? (i := 731) (by decide +kernel), List.mem_of_getElem? (i := 732) (by decide +kernel)⟩
theorem lw_p21 : lw_okq (⟨"ChoiceBenchModel", "isOne", "(I)Z"⟩, 41) := ⟨⟨by decide +kernel, by decide +kernel⟩, List.mem_of_getElem? (i := 596) (by decide +kernel), List.mem_of_getElem? (i := 735) (by decide +kernel), List.mem_of_getElem? (i := 736) (by decide +kernel)⟩
theorem lw_p22 : lw_okq (⟨"ChoiceBenchModel", "empties", "(I)V"⟩, 41) := ⟨⟨by decide +kernel, by decide +kernel⟩, List.mem_of_getElem? (i := 596) (by decide +kernel), List.mem_of_getElem? (i := 739) (by decide +kernel), List.mem_of_getElem? (i := 740) (by decide +kernel)⟩
theorem lw_p23 : lw_okq (⟨"ChoiceBenchModel", "onBehind", "(II)I"⟩, 41) := ⟨⟨by decide +kernel, by decide +kernel⟩, List.mem_of_getElem? (i := 596) (by decide +kernel), List.mem_of_getElem? (i := 759) (by decide +kernel), List.mem_of_getElem? (i := 760) (by decide +kernel)⟩
theorem lw_p24 : lw_okq (⟨"ChoiceBenchModel", "turns", "(I)V"⟩, 41) := ⟨⟨by decide +kernel, by decide +kernel⟩, List.mem_of_getElem? (i := 596) (by decide +kernel), List.mem_of_getElem? (i := 767) (by decide +kernel), List.mem_of_getElem? (i := 768) (by decide +kernel)⟩
theorem lw_p25 : lw_okq (⟨"ChoiceBenchModel", "isDue", "(I)Z"⟩, 41) := ⟨⟨by decide +kernel, by decide +kernel⟩, List.mem_of_getElem? (i := 596) (by decide +kernel), List.mem_of_getElem? (i := 771) (by decide +kernel), List.mem_of_getElem? (i := 772) (by decide +kernel)⟩
theorem lw_p26 : lw_okq (⟨"ChoiceBenchModel", "ends", "(I)V"⟩, 41) := ⟨⟨by decide +kernel, by decide +kernel⟩, List.mem_of_getElem? (i := 596) (by decide +kernel), List.mem_of_getElem? (i := 775) (by decide +kernel), List.mem_of_getElem? (i := 776) (by decide +kernel)⟩
theorem lw_p27 : lw_okq (⟨"ChoiceBenchModel", "goesOut", "(I)V"⟩, 41) := ⟨⟨by decide +kernel, by decide +kernel⟩, List.mem_of_getElem? (i := 596) (by decide +kernel), List.mem_of_getElem? (i := 779) (by decide +kernel), List.mem_of_getElem? (i := 780) (by decide +kernel)⟩
theorem lw_p28 : lw_okq (⟨"ChoiceBenchModel", "withdraws", "(I)V"⟩, 41) := ⟨⟨by decide +kernel, by decide +kernel⟩, List.mem_of_getElem? (i := 596) (by decide +kernel), List.mem_of_getElem? (i := 783) (by decide +kernel), List.mem_of_getElem? (i := 784) (by decide +kernel)⟩
theorem lw_p29 : lw_okq (⟨"ChoiceBenchModel", "ownEntry", "(I)I"⟩, 41) := ⟨⟨by decide +kernel, by decide +kernel⟩, List.mem_of_getElem? (i := 596) (by decide +kernel), List.mem_of_getElem? (i := 787) (by decide +kernel), List.mem_of_getElem? (i := 788) (by decide +kernel)⟩
theorem lw_p30 : lw_okq (⟨"ChoiceBenchModel", "publishes", "(I)V"⟩, 41) := ⟨⟨by decide +kernel, by decide +kernel⟩, List.mem_of_getElem? (i := 596) (by decide +kernel), List.mem_of_getElem? (i := 791) (by decide +kernel), List.mem_of_getElem? (i := 792) (by decide +kernel)⟩
theorem lw_p31 : lw_okq (⟨"ChoiceBenchModel", "looksOn", "(II)V"⟩, 41) := ⟨⟨by decide +kernel, by decide +kernel⟩, List.mem_of_getElem? (i := 596) (by decide +kernel), List.mem_of_getElem? (i := 795) (by decide +kernel), List.mem_of_getElem? (i := 796) (by decide +kernel)⟩
def lw_privs_2 : List (MethodName × Nat) := [(⟨"ChoiceBench", "tellOther", "(LChoiceBench$Proc;LChoiceBench$Proc;LChoiceBench$Guard;)V"⟩, 9), (⟨"ChoiceBench", "takeOwn", "(LChoiceBench$Proc;LChoiceBench$Entry;LChoiceBench$Guard;)V"⟩, 9), (⟨"ChoiceBench", "present", "()I"⟩, 9), (⟨"ChoiceBench", "listed", "()I"⟩, 9), (⟨"ChoiceBenchModel", "isIn", "(II)Z"⟩, 41), (⟨"ChoiceBenchModel", "isOne", "(I)Z"⟩, 41), (⟨"ChoiceBenchModel", "empties", "(I)V"⟩, 41), (⟨"ChoiceBenchModel", "onBehind", "(II)I"⟩, 41), (⟨"ChoiceBenchModel", "turns", "(I)V"⟩, 41), (⟨"ChoiceBenchModel", "isDue", "(I)Z"⟩, 41), (⟨"ChoiceBenchModel", "ends", "(I)V"⟩, 41), (⟨"ChoiceBenchModel", "goesOut", "(I)V"⟩, 41), (⟨"ChoiceBenchModel", "withdraws", "(I)V"⟩, 41), (⟨"ChoiceBenchModel", "ownEntry", "(I)I"⟩, 41), (⟨"ChoiceBenchModel", "publishes", "(I)V"⟩, 41), (⟨"ChoiceBenchModel", "looksOn", "(II)V"⟩, 41)]
theorem lw_r2 : ∀ q ∈ lw_privs_2, lw_okq q := List.forall_mem_cons.mpr ⟨lw_p16, List.forall_mem_cons.mpr ⟨lw_p17, List.forall_mem_cons.mpr ⟨lw_p18, List.forall_mem_cons.mpr ⟨lw_p19, List.forall_mem_cons.mpr ⟨lw_p20, List.forall_mem_cons.mpr ⟨lw_p21, List.forall_mem_cons.mpr ⟨lw_p22, List.forall_mem_cons.mpr ⟨lw_p23, List.forall_mem_cons.mpr ⟨lw_p24, List.forall_mem_cons.mpr ⟨lw_p25, List.forall_mem_cons.mpr ⟨lw_p26, List.forall_mem_cons.mpr ⟨lw_p27, List.forall_mem_cons.mpr ⟨lw_p28, List.forall_mem_cons.mpr ⟨lw_p29, List.forall_mem_cons.mpr ⟨lw_p30, List.forall_mem_cons.mpr ⟨lw_p31, fun _ h => absurd h List.not_mem_nil⟩⟩⟩⟩⟩⟩⟩⟩⟩⟩⟩⟩⟩⟩⟩⟩
theorem lw_p32 : lw_okq (⟨"ChoiceBenchModel", "looks", "(I)V"⟩, 41) := ⟨⟨by decide +kernel, by decide +kernel⟩, List.mem_of_getElem? (i := 596) (by decide +kernel), List.mem_of_getElem? (i := 799) (by decide +kernel), List.mem_of_getElem? (i := 800) (by decide +kernel)⟩
theorem lw_p33 : lw_okq (⟨"ChoiceBenchModel", "claims", "(I)V"⟩, 41) := ⟨⟨by decide +kernel, by decide +kernel⟩, List.mem_of_getElem? (i := 596) (by decide +kernel), List.mem_of_getElem? (i := 803) (by decide +kernel), List.mem_of_getElem? (i := 804) (by decide +kernel)⟩
theorem lw_p34 : lw_okq (⟨"ChoiceBenchModel", "versionOf", "(II)I"⟩, 41) := ⟨⟨by decide +kernel, by decide +kernel⟩, List.mem_of_getElem? (i := 596) (by decide +kernel), List.mem_of_getElem? (i := 807) (by decide +kernel), List.mem_of_getElem? (i := 808) (by decide +kernel)⟩
theorem lw_p35 : lw_okq (⟨"ChoiceBenchModel", "tries", "(III)Z"⟩, 41) := ⟨⟨by decide +kernel, by decide +kernel⟩, List.mem_of_getElem? (i := 596) (by decide +kernel), List.mem_of_getElem? (i := 811) (by decide +kernel), List.mem_of_getElem? (i := 812) (by decide +kernel)⟩
theorem lw_p36 : lw_okq (⟨"ChoiceBenchModel", "isEnded", "(I)Z"⟩, 41) := ⟨⟨by decide +kernel, by decide +kernel⟩, List.mem_of_getElem? (i := 596) (by decide +kernel), List.mem_of_getElem? (i := 815) (by decide +kernel), List.mem_of_getElem? (i := 816) (by decide +kernel)⟩
theorem lw_p37 : lw_okq (⟨"ChoiceBenchModel", "isBusy", "(III)V"⟩, 41) := ⟨⟨by decide +kernel, by decide +kernel⟩, List.mem_of_getElem? (i := 596) (by decide +kernel), List.mem_of_getElem? (i := 819) (by decide +kernel), List.mem_of_getElem? (i := 820) (by decide +kernel)⟩
theorem lw_p38 : lw_okq (⟨"ChoiceBenchModel", "seconds", "(I)V"⟩, 41) := ⟨⟨by decide +kernel, by decide +kernel⟩, List.mem_of_getElem? (i := 596) (by decide +kernel), List.mem_of_getElem? (i := 823) (by decide +kernel), List.mem_of_getElem? (i := 824) (by decide +kernel)⟩
theorem lw_p39 : lw_okq (⟨"ChoiceBenchModel", "meets", "(I)V"⟩, 41) := ⟨⟨by decide +kernel, by decide +kernel⟩, List.mem_of_getElem? (i := 596) (by decide +kernel), List.mem_of_getElem? (i := 827) (by decide +kernel), List.mem_of_getElem? (i := 828) (by decide +kernel)⟩
theorem lw_p40 : lw_okq (⟨"ChoiceBenchModel", "tells", "(III)V"⟩, 41) := ⟨⟨by decide +kernel, by decide +kernel⟩, List.mem_of_getElem? (i := 596) (by decide +kernel), List.mem_of_getElem? (i := 831) (by decide +kernel), List.mem_of_getElem? (i := 832) (by decide +kernel)⟩
theorem lw_p41 : lw_okq (⟨"ChoiceBenchModel", "rests", "(I)V"⟩, 41) := ⟨⟨by decide +kernel, by decide +kernel⟩, List.mem_of_getElem? (i := 596) (by decide +kernel), List.mem_of_getElem? (i := 835) (by decide +kernel), List.mem_of_getElem? (i := 836) (by decide +kernel)⟩
theorem lw_p42 : lw_okq (⟨"ChoiceBenchModel", "removes", "(I)V"⟩, 41) := ⟨⟨by decide +kernel, by decide +kernel⟩, List.mem_of_getElem? (i := 596) (by decide +kernel), List.mem_of_getElem? (i := 839) (by decide +kernel), List.mem_of_getElem? (i := 840) (by decide +kernel)⟩
theorem lw_p43 : lw_okq (⟨"ChoiceBenchModel", "how", "(I)I"⟩, 41) := ⟨⟨by decide +kernel, by decide +kernel⟩, List.mem_of_getElem? (i := 596) (by decide +kernel), List.mem_of_getElem? (i := 843) (by decide +kernel), List.mem_of_getElem? (i := 844) (by decide +kernel)⟩
theorem lw_p44 : lw_okq (⟨"ChoiceBenchModel", "isOffering", "(I)Z"⟩, 41) := ⟨⟨by decide +kernel, by decide +kernel⟩, List.mem_of_getElem? (i := 596) (by decide +kernel), List.mem_of_getElem? (i := 851) (by decide +kernel), List.mem_of_getElem? (i := 852) (by decide +kernel)⟩
theorem lw_p45 : lw_okq (⟨"ChoiceBenchModel", "isUnmet", "(I)Z"⟩, 41) := ⟨⟨by decide +kernel, by decide +kernel⟩, List.mem_of_getElem? (i := 596) (by decide +kernel), List.mem_of_getElem? (i := 896) (by decide +kernel), List.mem_of_getElem? (i := 897) (by decide +kernel)⟩
theorem lw_p46 : lw_okq (⟨"ChoiceBenchModel", "match", "(II)Z"⟩, 41) := ⟨⟨by decide +kernel, by decide +kernel⟩, List.mem_of_getElem? (i := 596) (by decide +kernel), List.mem_of_getElem? (i := 900) (by decide +kernel), List.mem_of_getElem? (i := 901) (by decide +kernel)⟩
def lw_privs_3 : List (MethodName × Nat) := [(⟨"ChoiceBenchModel", "looks", "(I)V"⟩, 41), (⟨"ChoiceBenchModel", "claims", "(I)V"⟩, 41), (⟨"ChoiceBenchModel", "versionOf", "(II)I"⟩, 41), (⟨"ChoiceBenchModel", "tries", "(III)Z"⟩, 41), (⟨"ChoiceBenchModel", "isEnded", "(I)Z"⟩, 41), (⟨"ChoiceBenchModel", "isBusy", "(III)V"⟩, 41), (⟨"ChoiceBenchModel", "seconds", "(I)V"⟩, 41), (⟨"ChoiceBenchModel", "meets", "(I)V"⟩, 41), (⟨"ChoiceBenchModel", "tells", "(III)V"⟩, 41), (⟨"ChoiceBenchModel", "rests", "(I)V"⟩, 41), (⟨"ChoiceBenchModel", "removes", "(I)V"⟩, 41), (⟨"ChoiceBenchModel", "how", "(I)I"⟩, 41), (⟨"ChoiceBenchModel", "isOffering", "(I)Z"⟩, 41), (⟨"ChoiceBenchModel", "isUnmet", "(I)Z"⟩, 41), (⟨"ChoiceBenchModel", "match", "(II)Z"⟩, 41)]
theorem lw_r3 : ∀ q ∈ lw_privs_3, lw_okq q := List.forall_mem_cons.mpr ⟨lw_p32, List.forall_mem_cons.mpr ⟨lw_p33, List.forall_mem_cons.mpr ⟨lw_p34, List.forall_mem_cons.mpr ⟨lw_p35, List.forall_mem_cons.mpr ⟨lw_p36, List.forall_mem_cons.mpr ⟨lw_p37, List.forall_mem_cons.mpr ⟨lw_p38, List.forall_mem_cons.mpr ⟨lw_p39, List.forall_mem_cons.mpr ⟨lw_p40, List.forall_mem_cons.mpr ⟨lw_p41, List.forall_mem_cons.mpr ⟨lw_p42, List.forall_mem_cons.mpr ⟨lw_p43, List.forall_mem_cons.mpr ⟨lw_p44, List.forall_mem_cons.mpr ⟨lw_p45, List.forall_mem_cons.mpr ⟨lw_p46, fun _ h => absurd h List.not_mem_nil⟩⟩⟩⟩⟩⟩⟩⟩⟩⟩⟩⟩⟩⟩⟩
def lw_privs : List (MethodName × Nat) := lw_privs_1 ++ (lw_privs_2 ++ (lw_privs_3))
def lw_tbl : List Cond := k2_sels lw_privs ++ tables_1
theorem lw_privs_ok : ∀ q ∈ lw_privs, lw_okq q := by
  show ∀ q ∈ lw_privs_1 ++ (lw_privs_2 ++ (lw_privs_3)), lw_okq q
  exact List.forall_mem_append.mpr ⟨lw_r1, List.forall_mem_append.mpr ⟨lw_r2, lw_r3⟩⟩
end
section
def RX0 : String := "ChoiceBench$Entry"
def TX0 : u_T := fun k => match k with
  | 0 => ("ChoiceBench$Entry", "process", "I", true)
  | 1 => ("ChoiceBench$Entry", "version", "I", true)
  | 2 => ("ChoiceBench$Entry", "kind", "I", true)
  | 3 => ("ChoiceBench$Entry", "channel", "I", true)
  | 4 => ("ChoiceBench$Entry", "value", "I", true)
  | _ => ("ChoiceBench$Entry", "number", "I", true)
def tyX0 : Nat → FieldType := fun k => match k with
  | 0 => .int
  | 1 => .int
  | 2 => .int
  | 3 => .int
  | 4 => .int
  | _ => .int
theorem nmX0 : ∀ a, a < 6 → ∀ b, b < 6 → a ≠ b → (TX0 a).2.1 ≠ (TX0 b).2.1 := by decide +kernel
theorem tyX0_ok : ∀ k, k < 6 → parseFieldDescriptor (TX0 k).2.2.1 = some (tyX0 k) := by decide +kernel
abbrev cX0_init : ByteArray := prog_2_method_1_code
def yX0_init : MethodName := ⟨RX0, "<init>", "(IILChoiceBench$Guard;I)V"⟩
abbrev cX0_part : ByteArray := prog_2_method_2_code
def yX0_part : MethodName := ⟨RX0, "part", "(I)I"⟩
def RX1 : String := "ChoiceBench$EntryList"
def TX1 : u_T := fun k => match k with
  | 0 => ("ChoiceBench$EntryList", "entries", "[LChoiceBench$Entry;", true)
  | _ => ("ChoiceBench$EntryList", "size", "I", false)
def tyX1 : Nat → FieldType := fun k => match k with
  | 0 => .array (.object "ChoiceBench$Entry")
  | _ => .int
theorem nmX1 : ∀ a, a < 2 → ∀ b, b < 2 → a ≠ b → (TX1 a).2.1 ≠ (TX1 b).2.1 := by decide +kernel
theorem tyX1_ok : ∀ k, k < 2 → parseFieldDescriptor (TX1 k).2.2.1 = some (tyX1 k) := by decide +kernel
abbrev cX1_init : ByteArray := prog_3_method_1_code
def yX1_init : MethodName := ⟨RX1, "<init>", "()V"⟩
abbrev cX1_at : ByteArray := prog_3_method_2_code
def yX1_at : MethodName := ⟨RX1, "at", "(I)LChoiceBench$Entry;"⟩
abbrev cX1_append : ByteArray := prog_3_method_3_code
def yX1_append : MethodName := ⟨RX1, "append", "(LChoiceBench$Entry;)V"⟩
abbrev cX1_firstAbove : ByteArray := prog_3_method_4_code
def yX1_firstAbove : MethodName := ⟨RX1, "firstAbove", "(I)LChoiceBench$Entry;"⟩
abbrev cX1_drop : ByteArray := prog_3_method_5_code
def yX1_drop : MethodName := ⟨RX1, "drop", "(I)V"⟩
def RX2 : String := "ChoiceBench$Guard"
def TX2 : u_T := fun k => match k with
  | 0 => ("ChoiceBench$Guard", "kind", "I", false)
  | 1 => ("ChoiceBench$Guard", "channel", "I", false)
  | 2 => ("ChoiceBench$Guard", "value", "I", false)
  | _ => ("ChoiceBench$Guard", "on", "Z", false)
def tyX2 : Nat → FieldType := fun k => match k with
  | 0 => .int
  | 1 => .int
  | 2 => .int
  | _ => .boolean
theorem nmX2 : ∀ a, a < 4 → ∀ b, b < 4 → a ≠ b → (TX2 a).2.1 ≠ (TX2 b).2.1 := by decide +kernel
theorem tyX2_ok : ∀ k, k < 4 → parseFieldDescriptor (TX2 k).2.2.1 = some (tyX2 k) := by decide +kernel
abbrev cX2_init : ByteArray := prog_4_method_1_code
def yX2_init : MethodName := ⟨RX2, "<init>", "()V"⟩
abbrev cX2_matches : ByteArray := prog_4_method_2_code
def yX2_matches : MethodName := ⟨RX2, "matches", "(LChoiceBench$Guard;)Z"⟩
def RX3 : String := "ChoiceBench$Outcome"
def TX3 : u_T := fun k => match k with
  | 0 => ("ChoiceBench$Outcome", "known", "Z", false)
  | 1 => ("ChoiceBench$Outcome", "partner", "I", false)
  | 2 => ("ChoiceBench$Outcome", "channel", "I", false)
  | 3 => ("ChoiceBench$Outcome", "got", "I", false)
  | _ => ("ChoiceBench$Outcome", "version", "I", false)
def tyX3 : Nat → FieldType := fun k => match k with
  | 0 => .boolean
  | 1 => .int
  | 2 => .int
  | 3 => .int
  | _ => .int
theorem nmX3 : ∀ a, a < 5 → ∀ b, b < 5 → a ≠ b → (TX3 a).2.1 ≠ (TX3 b).2.1 := by decide +kernel
theorem tyX3_ok : ∀ k, k < 5 → parseFieldDescriptor (TX3 k).2.2.1 = some (tyX3 k) := by decide +kernel
abbrev cX3_init : ByteArray := prog_5_method_1_code
def yX3_init : MethodName := ⟨RX3, "<init>", "()V"⟩
abbrev cX3_set : ByteArray := prog_5_method_2_code
def yX3_set : MethodName := ⟨RX3, "set", "(IIII)V"⟩
abbrev cX3_part : ByteArray := prog_5_method_3_code
def yX3_part : MethodName := ⟨RX3, "part", "(I)I"⟩
def RX4 : String := "ChoiceBench$PairLog"
def TX4 : u_T := fun k => match k with
  | 0 => ("ChoiceBench$PairLog", "parts", "[I", true)
  | _ => ("ChoiceBench$PairLog", "size", "I", false)
def tyX4 : Nat → FieldType := fun k => match k with
  | 0 => .array .int
  | _ => .int
theorem nmX4 : ∀ a, a < 2 → ∀ b, b < 2 → a ≠ b → (TX4 a).2.1 ≠ (TX4 b).2.1 := by decide +kernel
theorem tyX4_ok : ∀ k, k < 2 → parseFieldDescriptor (TX4 k).2.2.1 = some (tyX4 k) := by decide +kernel
abbrev cX4_init : ByteArray := prog_6_method_1_code
def yX4_init : MethodName := ⟨RX4, "<init>", "()V"⟩
abbrev cX4_add : ByteArray := prog_6_method_2_code
def yX4_add : MethodName := ⟨RX4, "add", "(LChoiceBench$Proc;LChoiceBench$Entry;LChoiceBench$Guard;I)V"⟩
abbrev cX4_part : ByteArray := prog_6_method_3_code
def yX4_part : MethodName := ⟨RX4, "part", "(II)I"⟩
def RX5 : String := "ChoiceBench$Proc"
def TX5 : u_T := fun k => match k with
  | 0 => ("ChoiceBench$Proc", "number", "I", true)
  | 1 => ("ChoiceBench$Proc", "word", "LChoiceBench$Word;", true)
  | 2 => ("ChoiceBench$Proc", "told", "LChoiceBench$Outcome;", true)
  | 3 => ("ChoiceBench$Proc", "guards", "[LChoiceBench$Guard;", true)
  | 4 => ("ChoiceBench$Proc", "entries", "[LChoiceBench$Entry;", true)
  | 5 => ("ChoiceBench$Proc", "phase", "I", false)
  | 6 => ("ChoiceBench$Proc", "guardCount", "I", false)
  | 7 => ("ChoiceBench$Proc", "timeOut", "I", false)
  | 8 => ("ChoiceBench$Proc", "dueAt", "I", false)
  | 9 => ("ChoiceBench$Proc", "at", "I", false)
  | 10 => ("ChoiceBench$Proc", "seen", "I", false)
  | 11 => ("ChoiceBench$Proc", "met", "LChoiceBench$Entry;", false)
  | 12 => ("ChoiceBench$Proc", "busy", "Z", false)
  | 13 => ("ChoiceBench$Proc", "wasSettled", "Z", false)
  | 14 => ("ChoiceBench$Proc", "over", "I", false)
  | 15 => ("ChoiceBench$Proc", "entryCount", "I", false)
  | 16 => ("ChoiceBench$Proc", "withdrawn", "I", false)
  | 17 => ("ChoiceBench$Proc", "pairsOfOffer", "I", false)
  | 18 => ("ChoiceBench$Proc", "wasOut", "Z", false)
  | _ => ("ChoiceBench$Proc", "countedDouble", "Z", false)
def tyX5 : Nat → FieldType := fun k => match k with
  | 0 => .int
  | 1 => .object "ChoiceBench$Word"
  | 2 => .object "ChoiceBench$Outcome"
  | 3 => .array (.object "ChoiceBench$Guard")
  | 4 => .array (.object "ChoiceBench$Entry")
  | 5 => .int
  | 6 => .int
  | 7 => .int
  | 8 => .int
  | 9 => .int
  | 10 => .int
  | 11 => .object "ChoiceBench$Entry"
  | 12 => .boolean
  | 13 => .boolean
  | 14 => .int
  | 15 => .int
  | 16 => .int
  | 17 => .int
  | 18 => .boolean
  | _ => .boolean
theorem nmX5 : ∀ a, a < 20 → ∀ b, b < 20 → a ≠ b → (TX5 a).2.1 ≠ (TX5 b).2.1 := by decide +kernel
theorem tyX5_ok : ∀ k, k < 20 → parseFieldDescriptor (TX5 k).2.2.1 = some (tyX5 k) := by decide +kernel
abbrev cX5_init : ByteArray := prog_7_method_1_code
def yX5_init : MethodName := ⟨RX5, "<init>", "(I)V"⟩
abbrev cX5_becomeIdle : ByteArray := prog_7_method_2_code
def yX5_becomeIdle : MethodName := ⟨RX5, "becomeIdle", "()V"⟩
abbrev cX5_addGuard : ByteArray := prog_7_method_3_code
def yX5_addGuard : MethodName := ⟨RX5, "addGuard", "(IIIZ)Z"⟩
abbrev cX5_beginOffer : ByteArray := prog_7_method_4_code
def yX5_beginOffer : MethodName := ⟨RX5, "beginOffer", "(I)V"⟩
abbrev cX5_isOffering : ByteArray := prog_7_method_5_code
def yX5_isOffering : MethodName := ⟨RX5, "isOffering", "()Z"⟩
abbrev cX5_isClaiming : ByteArray := prog_7_method_6_code
def yX5_isClaiming : MethodName := ⟨RX5, "isClaiming", "()Z"⟩
abbrev cX5_heedsTime : ByteArray := prog_7_method_7_code
def yX5_heedsTime : MethodName := ⟨RX5, "heedsTime", "()Z"⟩
abbrev cX5_isDue : ByteArray := prog_7_method_8_code
def yX5_isDue : MethodName := ⟨RX5, "isDue", "(I)Z"⟩
abbrev cX5_standing : ByteArray := prog_7_method_9_code
def yX5_standing : MethodName := ⟨RX5, "standing", "()I"⟩
abbrev cX5_currentGuard : ByteArray := prog_7_method_10_code
def yX5_currentGuard : MethodName := ⟨RX5, "currentGuard", "()LChoiceBench$Guard;"⟩
abbrev cX5_nextOn : ByteArray := prog_7_method_11_code
def yX5_nextOn : MethodName := ⟨RX5, "nextOn", "(I)I"⟩
abbrev cX5_lookFromFirst : ByteArray := prog_7_method_12_code
def yX5_lookFromFirst : MethodName := ⟨RX5, "lookFromFirst", "()V"⟩
abbrev cX5_lookAtNext : ByteArray := prog_7_method_13_code
def yX5_lookAtNext : MethodName := ⟨RX5, "lookAtNext", "()V"⟩
abbrev cX5_lookAt : ByteArray := prog_7_method_14_code
def yX5_lookAt : MethodName := ⟨RX5, "lookAt", "(I)V"⟩
abbrev cX5_endLooking : ByteArray := prog_7_method_15_code
def yX5_endLooking : MethodName := ⟨RX5, "endLooking", "()V"⟩
abbrev cX5_wakeIfSettled : ByteArray := prog_7_method_16_code
def yX5_wakeIfSettled : MethodName := ⟨RX5, "wakeIfSettled", "()V"⟩
abbrev cX5_keepEntry : ByteArray := prog_7_method_17_code
def yX5_keepEntry : MethodName := ⟨RX5, "keepEntry", "(LChoiceBench$Entry;)V"⟩
abbrev cX5_firstEntry : ByteArray := prog_7_method_18_code
def yX5_firstEntry : MethodName := ⟨RX5, "firstEntry", "()LChoiceBench$Entry;"⟩
abbrev cX5_beginWithdraw : ByteArray := prog_7_method_19_code
def yX5_beginWithdraw : MethodName := ⟨RX5, "beginWithdraw", "()V"⟩
abbrev cX5_matches : ByteArray := prog_7_method_20_code
def yX5_matches : MethodName := ⟨RX5, "matches", "(LChoiceBench$Proc;)Z"⟩
def RX6 : String := "ChoiceBench$Word"
def TX6 : u_T := fun k => match k with
  | 0 => ("ChoiceBench$Word", "kind", "I", false)
  | 1 => ("ChoiceBench$Word", "version", "I", false)
  | _ => ("ChoiceBench$Word", "claimer", "I", false)
def tyX6 : Nat → FieldType := fun k => match k with
  | 0 => .int
  | 1 => .int
  | _ => .int
theorem nmX6 : ∀ a, a < 3 → ∀ b, b < 3 → a ≠ b → (TX6 a).2.1 ≠ (TX6 b).2.1 := by decide +kernel
theorem tyX6_ok : ∀ k, k < 3 → parseFieldDescriptor (TX6 k).2.2.1 = some (tyX6 k) := by decide +kernel
abbrev cX6_init : ByteArray := prog_8_method_1_code
def yX6_init : MethodName := ⟨RX6, "<init>", "()V"⟩
abbrev cX6_become : ByteArray := prog_8_method_2_code
def yX6_become : MethodName := ⟨RX6, "become", "(I)V"⟩
abbrev cX6_claimFor : ByteArray := prog_8_method_3_code
def yX6_claimFor : MethodName := ⟨RX6, "claimFor", "(I)V"⟩
abbrev cX6_isAt : ByteArray := prog_8_method_4_code
def yX6_isAt : MethodName := ⟨RX6, "isAt", "(II)Z"⟩
abbrev cX6_isSettled : ByteArray := prog_8_method_5_code
def yX6_isSettled : MethodName := ⟨RX6, "isSettled", "()Z"⟩
abbrev cX6_part : ByteArray := prog_8_method_6_code
def yX6_part : MethodName := ⟨RX6, "part", "(I)I"⟩
def RX7 : String := "ChoiceBench"
def TX7 : u_T := fun k => match k with
  | 0 => ("ChoiceBench", "procs", "[LChoiceBench$Proc;", true)
  | 1 => ("ChoiceBench", "lists", "[LChoiceBench$EntryList;", true)
  | 2 => ("ChoiceBench", "pairs", "LChoiceBench$PairLog;", true)
  | 3 => ("ChoiceBench", "clock", "I", false)
  | 4 => ("ChoiceBench", "steps", "I", false)
  | 5 => ("ChoiceBench", "published", "I", false)
  | 6 => ("ChoiceBench", "tried", "I", false)
  | 7 => ("ChoiceBench", "notWell", "I", false)
  | _ => ("ChoiceBench", "doubled", "I", false)
def tyX7 : Nat → FieldType := fun k => match k with
  | 0 => .array (.object "ChoiceBench$Proc")
  | 1 => .array (.object "ChoiceBench$EntryList")
  | 2 => .object "ChoiceBench$PairLog"
  | 3 => .int
  | 4 => .int
  | 5 => .int
  | 6 => .int
  | 7 => .int
  | _ => .int
theorem nmX7 : ∀ a, a < 9 → ∀ b, b < 9 → a ≠ b → (TX7 a).2.1 ≠ (TX7 b).2.1 := by decide +kernel
theorem tyX7_ok : ∀ k, k < 9 → parseFieldDescriptor (TX7 k).2.2.1 = some (tyX7 k) := by decide +kernel
abbrev cX7_init : ByteArray := prog_1_method_1_code
def yX7_init : MethodName := ⟨RX7, "<init>", "(I)V"⟩
abbrev cX7_spawn : ByteArray := prog_1_method_2_code
def yX7_spawn : MethodName := ⟨RX7, "spawn", "(I)Z"⟩
abbrev cX7_quit : ByteArray := prog_1_method_3_code
def yX7_quit : MethodName := ⟨RX7, "quit", "(I)Z"⟩
abbrev cX7_guard : ByteArray := prog_1_method_4_code
def yX7_guard : MethodName := ⟨RX7, "guard", "(IIIIZ)Z"⟩
abbrev cX7_timeout : ByteArray := prog_1_method_5_code
def yX7_timeout : MethodName := ⟨RX7, "timeout", "(II)Z"⟩
abbrev cX7_offer : ByteArray := prog_1_method_6_code
def yX7_offer : MethodName := ⟨RX7, "offer", "(I)Z"⟩
abbrev cX7_step : ByteArray := prog_1_method_7_code
def yX7_step : MethodName := ⟨RX7, "step", "(I)I"⟩
abbrev cX7_cancel : ByteArray := prog_1_method_8_code
def yX7_cancel : MethodName := ⟨RX7, "cancel", "(I)Z"⟩
abbrev cX7_finish : ByteArray := prog_1_method_9_code
def yX7_finish : MethodName := ⟨RX7, "finish", "(I)Z"⟩
abbrev cX7_tick : ByteArray := prog_1_method_10_code
def yX7_tick : MethodName := ⟨RX7, "tick", "()I"⟩
abbrev cX7_run : ByteArray := prog_1_method_11_code
def yX7_run : MethodName := ⟨RX7, "run", "(II)I"⟩
abbrev cX7_phase : ByteArray := prog_1_method_12_code
def yX7_phase : MethodName := ⟨RX7, "phase", "(I)I"⟩
abbrev cX7_word : ByteArray := prog_1_method_13_code
def yX7_word : MethodName := ⟨RX7, "word", "(II)I"⟩
abbrev cX7_outcome : ByteArray := prog_1_method_14_code
def yX7_outcome : MethodName := ⟨RX7, "outcome", "(II)I"⟩
abbrev cX7_entry : ByteArray := prog_1_method_15_code
def yX7_entry : MethodName := ⟨RX7, "entry", "(III)I"⟩
abbrev cX7_pair : ByteArray := prog_1_method_16_code
def yX7_pair : MethodName := ⟨RX7, "pair", "(II)I"⟩
abbrev cX7_doubles : ByteArray := prog_1_method_17_code
def yX7_doubles : MethodName := ⟨RX7, "doubles", "()I"⟩
abbrev cX7_unmet : ByteArray := prog_1_method_18_code
def yX7_unmet : MethodName := ⟨RX7, "unmet", "()I"⟩
abbrev cX7_held : ByteArray := prog_1_method_19_code
def yX7_held : MethodName := ⟨RX7, "held", "()I"⟩
abbrev cX7_count : ByteArray := prog_1_method_20_code
def yX7_count : MethodName := ⟨RX7, "count", "(I)I"⟩
abbrev cX7_procAt : ByteArray := prog_1_method_21_code
def yX7_procAt : MethodName := ⟨RX7, "procAt", "(I)LChoiceBench$Proc;"⟩
abbrev cX7_procIn : ByteArray := prog_1_method_22_code
def yX7_procIn : MethodName := ⟨RX7, "procIn", "(II)LChoiceBench$Proc;"⟩
abbrev cX7_listAt : ByteArray := prog_1_method_23_code
def yX7_listAt : MethodName := ⟨RX7, "listAt", "(I)LChoiceBench$EntryList;"⟩
abbrev cX7_present : ByteArray := prog_1_method_24_code
def yX7_present : MethodName := ⟨RX7, "present", "()I"⟩
abbrev cX7_listed : ByteArray := prog_1_method_25_code
def yX7_listed : MethodName := ⟨RX7, "listed", "()I"⟩
abbrev cX7_sleepUnmet : ByteArray := prog_1_method_26_code
def yX7_sleepUnmet : MethodName := ⟨RX7, "sleepUnmet", "(LChoiceBench$Proc;LChoiceBench$Proc;)Z"⟩
abbrev cX7_access : ByteArray := prog_1_method_27_code
def yX7_access : MethodName := ⟨RX7, "access", "(LChoiceBench$Proc;)V"⟩
abbrev cX7_accessToMeet : ByteArray := prog_1_method_28_code
def yX7_accessToMeet : MethodName := ⟨RX7, "accessToMeet", "(LChoiceBench$Proc;)V"⟩
abbrev cX7_runOutOfTime : ByteArray := prog_1_method_29_code
def yX7_runOutOfTime : MethodName := ⟨RX7, "runOutOfTime", "(LChoiceBench$Proc;)V"⟩
abbrev cX7_putOut : ByteArray := prog_1_method_30_code
def yX7_putOut : MethodName := ⟨RX7, "putOut", "(LChoiceBench$Proc;I)V"⟩
abbrev cX7_publishEntry : ByteArray := prog_1_method_31_code
def yX7_publishEntry : MethodName := ⟨RX7, "publishEntry", "(LChoiceBench$Proc;)V"⟩
abbrev cX7_lookOn : ByteArray := prog_1_method_32_code
def yX7_lookOn : MethodName := ⟨RX7, "lookOn", "(LChoiceBench$Proc;)V"⟩
abbrev cX7_claimLower : ByteArray := prog_1_method_33_code
def yX7_claimLower : MethodName := ⟨RX7, "claimLower", "(LChoiceBench$Proc;LChoiceBench$Proc;LChoiceBench$Entry;)V"⟩
abbrev cX7_claimHigher : ByteArray := prog_1_method_34_code
def yX7_claimHigher : MethodName := ⟨RX7, "claimHigher", "(LChoiceBench$Proc;LChoiceBench$Proc;LChoiceBench$Entry;LChoiceBench$Guard;)V"⟩
abbrev cX7_giveBack : ByteArray := prog_1_method_35_code
def yX7_giveBack : MethodName := ⟨RX7, "giveBack", "(LChoiceBench$Proc;LChoiceBench$Proc;)V"⟩
abbrev cX7_tellOther : ByteArray := prog_1_method_36_code
def yX7_tellOther : MethodName := ⟨RX7, "tellOther", "(LChoiceBench$Proc;LChoiceBench$Proc;LChoiceBench$Guard;)V"⟩
abbrev cX7_takeOwn : ByteArray := prog_1_method_37_code
def yX7_takeOwn : MethodName := ⟨RX7, "takeOwn", "(LChoiceBench$Proc;LChoiceBench$Entry;LChoiceBench$Guard;)V"⟩
abbrev cX7_withdrawEntry : ByteArray := prog_1_method_38_code
def yX7_withdrawEntry : MethodName := ⟨RX7, "withdrawEntry", "(LChoiceBench$Proc;)V"⟩
abbrev cX7_tryWord : ByteArray := prog_1_method_39_code
def yX7_tryWord : MethodName := ⟨RX7, "tryWord", "(LChoiceBench$Proc;LChoiceBench$Proc;LChoiceBench$Entry;)Z"⟩
abbrev cX7_noteBusy : ByteArray := prog_1_method_40_code
def yX7_noteBusy : MethodName := ⟨RX7, "noteBusy", "(LChoiceBench$Proc;LChoiceBench$Proc;LChoiceBench$Entry;)V"⟩
abbrev cX7_versionSought : ByteArray := prog_1_method_41_code
def yX7_versionSought : MethodName := ⟨RX7, "versionSought", "(LChoiceBench$Proc;LChoiceBench$Proc;LChoiceBench$Entry;)I"⟩
abbrev cX7_recordPair : ByteArray := prog_1_method_42_code
def yX7_recordPair : MethodName := ⟨RX7, "recordPair", "(LChoiceBench$Proc;LChoiceBench$Proc;LChoiceBench$Entry;LChoiceBench$Guard;)V"⟩
abbrev cX7_noteDouble : ByteArray := prog_1_method_43_code
def yX7_noteDouble : MethodName := ⟨RX7, "noteDouble", "(LChoiceBench$Proc;)V"⟩
def RX8 : String := "ChoiceBenchModel"
def TX8 : u_T := fun k => match k with
  | 0 => ("ChoiceBenchModel", "many", "I", true)
  | 1 => ("ChoiceBenchModel", "clock", "I", false)
  | 2 => ("ChoiceBenchModel", "steps", "I", false)
  | 3 => ("ChoiceBenchModel", "pairs", "I", false)
  | 4 => ("ChoiceBenchModel", "published", "I", false)
  | 5 => ("ChoiceBenchModel", "tried", "I", false)
  | 6 => ("ChoiceBenchModel", "vain", "I", false)
  | 7 => ("ChoiceBenchModel", "phase", "[I", true)
  | 8 => ("ChoiceBenchModel", "guards", "[I", true)
  | 9 => ("ChoiceBenchModel", "gKind", "[I", true)
  | 10 => ("ChoiceBenchModel", "gChannel", "[I", true)
  | 11 => ("ChoiceBenchModel", "gValue", "[I", true)
  | 12 => ("ChoiceBenchModel", "gOn", "[Z", true)
  | 13 => ("ChoiceBenchModel", "timeout", "[I", true)
  | 14 => ("ChoiceBenchModel", "due", "[I", true)
  | 15 => ("ChoiceBenchModel", "word", "[I", true)
  | 16 => ("ChoiceBenchModel", "version", "[I", true)
  | 17 => ("ChoiceBenchModel", "claimer", "[I", true)
  | 18 => ("ChoiceBenchModel", "at", "[I", true)
  | 19 => ("ChoiceBenchModel", "from", "[I", true)
  | 20 => ("ChoiceBenchModel", "busy", "[Z", true)
  | 21 => ("ChoiceBenchModel", "other", "[I", true)
  | 22 => ("ChoiceBenchModel", "otherVersion", "[I", true)
  | 23 => ("ChoiceBenchModel", "otherValue", "[I", true)
  | 24 => ("ChoiceBenchModel", "lost", "[Z", true)
  | 25 => ("ChoiceBenchModel", "late", "[Z", true)
  | 26 => ("ChoiceBenchModel", "isTold", "[Z", true)
  | 27 => ("ChoiceBenchModel", "partner", "[I", true)
  | 28 => ("ChoiceBenchModel", "channel", "[I", true)
  | 29 => ("ChoiceBenchModel", "got", "[I", true)
  | 30 => ("ChoiceBenchModel", "toldVersion", "[I", true)
  | 31 => ("ChoiceBenchModel", "entries", "I", false)
  | 32 => ("ChoiceBenchModel", "eProcess", "[I", true)
  | 33 => ("ChoiceBenchModel", "eVersion", "[I", true)
  | 34 => ("ChoiceBenchModel", "eKind", "[I", true)
  | 35 => ("ChoiceBenchModel", "eValue", "[I", true)
  | 36 => ("ChoiceBenchModel", "eNumber", "[I", true)
  | 37 => ("ChoiceBenchModel", "eChannel", "[I", true)
  | 38 => ("ChoiceBenchModel", "pairRow", "[I", true)
  | 39 => ("ChoiceBenchModel", "bookPairs", "[I", true)
  | _ => ("ChoiceBenchModel", "bookOut", "[Z", true)
def tyX8 : Nat → FieldType := fun k => match k with
  | 0 => .int
  | 1 => .int
  | 2 => .int
  | 3 => .int
  | 4 => .int
  | 5 => .int
  | 6 => .int
  | 7 => .array .int
  | 8 => .array .int
  | 9 => .array .int
  | 10 => .array .int
  | 11 => .array .int
  | 12 => .array .boolean
  | 13 => .array .int
  | 14 => .array .int
  | 15 => .array .int
  | 16 => .array .int
  | 17 => .array .int
  | 18 => .array .int
  | 19 => .array .int
  | 20 => .array .boolean
  | 21 => .array .int
  | 22 => .array .int
  | 23 => .array .int
  | 24 => .array .boolean
  | 25 => .array .boolean
  | 26 => .array .boolean
  | 27 => .array .int
  | 28 => .array .int
  | 29 => .array .int
  | 30 => .array .int
  | 31 => .int
  | 32 => .array .int
  | 33 => .array .int
  | 34 => .array .int
  | 35 => .array .int
  | 36 => .array .int
  | 37 => .array .int
  | 38 => .array .int
  | 39 => .array .int
  | _ => .array .boolean
theorem nmX8 : ∀ a, a < 41 → ∀ b, b < 41 → a ≠ b → (TX8 a).2.1 ≠ (TX8 b).2.1 := by decide +kernel
theorem tyX8_ok : ∀ k, k < 41 → parseFieldDescriptor (TX8 k).2.2.1 = some (tyX8 k) := by decide +kernel
abbrev cX8_init : ByteArray := prog_10_method_1_code
def yX8_init : MethodName := ⟨RX8, "<init>", "(I)V"⟩
abbrev cX8_isOne : ByteArray := prog_10_method_2_code
def yX8_isOne : MethodName := ⟨RX8, "isOne", "(I)Z"⟩
abbrev cX8_isIn : ByteArray := prog_10_method_3_code
def yX8_isIn : MethodName := ⟨RX8, "isIn", "(II)Z"⟩
abbrev cX8_isOffering : ByteArray := prog_10_method_4_code
def yX8_isOffering : MethodName := ⟨RX8, "isOffering", "(I)Z"⟩
abbrev cX8_empties : ByteArray := prog_10_method_5_code
def yX8_empties : MethodName := ⟨RX8, "empties", "(I)V"⟩
abbrev cX8_spawn : ByteArray := prog_10_method_6_code
def yX8_spawn : MethodName := ⟨RX8, "spawn", "(I)Z"⟩
abbrev cX8_quit : ByteArray := prog_10_method_7_code
def yX8_quit : MethodName := ⟨RX8, "quit", "(I)Z"⟩
abbrev cX8_guard : ByteArray := prog_10_method_8_code
def yX8_guard : MethodName := ⟨RX8, "guard", "(IIIIZ)Z"⟩
abbrev cX8_timeout : ByteArray := prog_10_method_9_code
def yX8_timeout : MethodName := ⟨RX8, "timeout", "(II)Z"⟩
abbrev cX8_onBehind : ByteArray := prog_10_method_10_code
def yX8_onBehind : MethodName := ⟨RX8, "onBehind", "(II)I"⟩
abbrev cX8_offer : ByteArray := prog_10_method_11_code
def yX8_offer : MethodName := ⟨RX8, "offer", "(I)Z"⟩
abbrev cX8_publishes : ByteArray := prog_10_method_12_code
def yX8_publishes : MethodName := ⟨RX8, "publishes", "(I)V"⟩
abbrev cX8_ownEntry : ByteArray := prog_10_method_13_code
def yX8_ownEntry : MethodName := ⟨RX8, "ownEntry", "(I)I"⟩
abbrev cX8_removes : ByteArray := prog_10_method_14_code
def yX8_removes : MethodName := ⟨RX8, "removes", "(I)V"⟩
abbrev cX8_withdraws : ByteArray := prog_10_method_15_code
def yX8_withdraws : MethodName := ⟨RX8, "withdraws", "(I)V"⟩
abbrev cX8_looksOn : ByteArray := prog_10_method_16_code
def yX8_looksOn : MethodName := ⟨RX8, "looksOn", "(II)V"⟩
abbrev cX8_tries : ByteArray := prog_10_method_17_code
def yX8_tries : MethodName := ⟨RX8, "tries", "(III)Z"⟩
abbrev cX8_isEnded : ByteArray := prog_10_method_18_code
def yX8_isEnded : MethodName := ⟨RX8, "isEnded", "(I)Z"⟩
abbrev cX8_isBusy : ByteArray := prog_10_method_19_code
def yX8_isBusy : MethodName := ⟨RX8, "isBusy", "(III)V"⟩
abbrev cX8_versionOf : ByteArray := prog_10_method_20_code
def yX8_versionOf : MethodName := ⟨RX8, "versionOf", "(II)I"⟩
abbrev cX8_looks : ByteArray := prog_10_method_21_code
def yX8_looks : MethodName := ⟨RX8, "looks", "(I)V"⟩
abbrev cX8_claims : ByteArray := prog_10_method_22_code
def yX8_claims : MethodName := ⟨RX8, "claims", "(I)V"⟩
abbrev cX8_seconds : ByteArray := prog_10_method_23_code
def yX8_seconds : MethodName := ⟨RX8, "seconds", "(I)V"⟩
abbrev cX8_meets : ByteArray := prog_10_method_24_code
def yX8_meets : MethodName := ⟨RX8, "meets", "(I)V"⟩
abbrev cX8_tells : ByteArray := prog_10_method_25_code
def yX8_tells : MethodName := ⟨RX8, "tells", "(III)V"⟩
abbrev cX8_ends : ByteArray := prog_10_method_26_code
def yX8_ends : MethodName := ⟨RX8, "ends", "(I)V"⟩
abbrev cX8_goesOut : ByteArray := prog_10_method_27_code
def yX8_goesOut : MethodName := ⟨RX8, "goesOut", "(I)V"⟩
abbrev cX8_isDue : ByteArray := prog_10_method_28_code
def yX8_isDue : MethodName := ⟨RX8, "isDue", "(I)Z"⟩
abbrev cX8_turns : ByteArray := prog_10_method_29_code
def yX8_turns : MethodName := ⟨RX8, "turns", "(I)V"⟩
abbrev cX8_rests : ByteArray := prog_10_method_30_code
def yX8_rests : MethodName := ⟨RX8, "rests", "(I)V"⟩
abbrev cX8_how : ByteArray := prog_10_method_31_code
def yX8_how : MethodName := ⟨RX8, "how", "(I)I"⟩
abbrev cX8_step : ByteArray := prog_10_method_32_code
def yX8_step : MethodName := ⟨RX8, "step", "(I)I"⟩
abbrev cX8_cancel : ByteArray := prog_10_method_33_code
def yX8_cancel : MethodName := ⟨RX8, "cancel", "(I)Z"⟩
abbrev cX8_finish : ByteArray := prog_10_method_34_code
def yX8_finish : MethodName := ⟨RX8, "finish", "(I)Z"⟩
abbrev cX8_tick : ByteArray := prog_10_method_35_code
def yX8_tick : MethodName := ⟨RX8, "tick", "()I"⟩
abbrev cX8_run : ByteArray := prog_10_method_36_code
def yX8_run : MethodName := ⟨RX8, "run", "(II)I"⟩
abbrev cX8_phase : ByteArray := prog_10_method_37_code
def yX8_phase : MethodName := ⟨RX8, "phase", "(I)I"⟩
abbrev cX8_word : ByteArray := prog_10_method_38_code
def yX8_word : MethodName := ⟨RX8, "word", "(II)I"⟩
abbrev cX8_outcome : ByteArray := prog_10_method_39_code
def yX8_outcome : MethodName := ⟨RX8, "outcome", "(II)I"⟩
abbrev cX8_entry : ByteArray := prog_10_method_40_code
def yX8_entry : MethodName := ⟨RX8, "entry", "(III)I"⟩
abbrev cX8_pair : ByteArray := prog_10_method_41_code
def yX8_pair : MethodName := ⟨RX8, "pair", "(II)I"⟩
abbrev cX8_doubles : ByteArray := prog_10_method_42_code
def yX8_doubles : MethodName := ⟨RX8, "doubles", "()I"⟩
abbrev cX8_isUnmet : ByteArray := prog_10_method_43_code
def yX8_isUnmet : MethodName := ⟨RX8, "isUnmet", "(I)Z"⟩
abbrev cX8_match : ByteArray := prog_10_method_44_code
def yX8_match : MethodName := ⟨RX8, "match", "(II)Z"⟩
abbrev cX8_unmet : ByteArray := prog_10_method_45_code
def yX8_unmet : MethodName := ⟨RX8, "unmet", "()I"⟩
abbrev cX8_held : ByteArray := prog_10_method_46_code
def yX8_held : MethodName := ⟨RX8, "held", "()I"⟩
abbrev cX8_count : ByteArray := prog_10_method_47_code
def yX8_count : MethodName := ⟨RX8, "count", "(I)I"⟩
def RJ9 : String := "java/lang/Math"
def TJ9 : u_T := fun k => match k with
  | _ => ("", "", "", false)
def tyJ9 : Nat → FieldType := fun k => match k with
  | _ => .int
theorem nmJ9 : ∀ a, a < 0 → ∀ b, b < 0 → a ≠ b → (TJ9 a).2.1 ≠ (TJ9 b).2.1 := by decide +kernel
theorem tyJ9_ok : ∀ k, k < 0 → parseFieldDescriptor (TJ9 k).2.2.1 = some (tyJ9 k) := by decide +kernel
abbrev cJ9_max_7cf53 : ByteArray := prog_11_method_65_code
def yJ9_max_7cf53 : MethodName := ⟨RJ9, "max", "(II)I"⟩
abbrev cJ9_min_7cf53 : ByteArray := prog_11_method_69_code
def yJ9_min_7cf53 : MethodName := ⟨RJ9, "min", "(II)I"⟩
def RL : String := "ChoiceBenchLaw"
abbrev cL_cell : ByteArray := method_2_code
def yL_cell : MethodName := ⟨RL, "cell", "([II)I"⟩
abbrev cL_law : ByteArray := code
def yL_law : MethodName := ⟨RL, "law", "([I)Z"⟩
abbrev vwCl : List vw_C := [(RX0, TX0, 6), (RX1, TX1, 2), (RX2, TX2, 4), (RX3, TX3, 5), (RX4, TX4, 2), (RX5, TX5, 20), (RX6, TX6, 3), (RX7, TX7, 9), (RX8, TX8, 41)]
end
section
theorem dX0_init_0 : decode cX0_init 0 = .ok (.aload_n 0, 1) := by decide +kernel
theorem dX0_init_1 : decode cX0_init 1 = .ok (.invokespecial 3, 3) := by decide +kernel
theorem dX0_init_4 : decode cX0_init 4 = .ok (.aload_n 0, 1) := by decide +kernel
theorem dX0_init_5 : decode cX0_init 5 = .ok (.iload_n 1, 1) := by decide +kernel
theorem dX0_init_6 : decode cX0_init 6 = .ok (.putfield 9, 3) := by decide +kernel
theorem dX0_init_9 : decode cX0_init 9 = .ok (.aload_n 0, 1) := by decide +kernel
theorem dX0_init_10 : decode cX0_init 10 = .ok (.iload_n 2, 1) := by decide +kernel
theorem dX0_init_11 : decode cX0_init 11 = .ok (.putfield 15, 3) := by decide +kernel
theorem dX0_init_14 : decode cX0_init 14 = .ok (.aload_n 0, 1) := by decide +kernel
theorem dX0_init_15 : decode cX0_init 15 = .ok (.aload_n 3, 1) := by decide +kernel
theorem dX0_init_16 : decode cX0_init 16 = .ok (.getfield 18, 3) := by decide +kernel
theorem dX0_init_19 : decode cX0_init 19 = .ok (.putfield 23, 3) := by decide +kernel
theorem dX0_init_22 : decode cX0_init 22 = .ok (.aload_n 0, 1) := by decide +kernel
theorem dX0_init_23 : decode cX0_init 23 = .ok (.aload_n 3, 1) := by decide +kernel
theorem dX0_init_24 : decode cX0_init 24 = .ok (.getfield 24, 3) := by decide +kernel
theorem dX0_init_27 : decode cX0_init 27 = .ok (.putfield 27, 3) := by decide +kernel
theorem dX0_init_30 : decode cX0_init 30 = .ok (.aload_n 0, 1) := by decide +kernel
theorem dX0_init_31 : decode cX0_init 31 = .ok (.aload_n 3, 1) := by decide +kernel
theorem dX0_init_32 : decode cX0_init 32 = .ok (.getfield 28, 3) := by decide +kernel
theorem dX0_init_35 : decode cX0_init 35 = .ok (.putfield 31, 3) := by decide +kernel
theorem dX0_init_38 : decode cX0_init 38 = .ok (.aload_n 0, 1) := by decide +kernel
theorem dX0_init_39 : decode cX0_init 39 = .ok (.iload 4, 2) := by decide +kernel
theorem dX0_init_41 : decode cX0_init 41 = .ok (.putfield 32, 3) := by decide +kernel
theorem dX0_init_44 : decode cX0_init 44 = .ok (.return_, 1) := by decide +kernel
theorem dX0_part_0 : decode cX0_part 0 = .ok (.iload_n 1, 1) := by decide +kernel
theorem dX0_part_1 : decode cX0_part 1 = .ok (.tableswitch 60 0 4 #[35, 40, 45, 50, 55], 35) := by decide +kernel
theorem dX0_part_36 : decode cX0_part 36 = .ok (.aload_n 0, 1) := by decide +kernel
theorem dX0_part_37 : decode cX0_part 37 = .ok (.getfield 9, 3) := by decide +kernel
theorem dX0_part_40 : decode cX0_part 40 = .ok (.ireturn, 1) := by decide +kernel
theorem dX0_part_41 : decode cX0_part 41 = .ok (.aload_n 0, 1) := by decide +kernel
theorem dX0_part_42 : decode cX0_part 42 = .ok (.getfield 23, 3) := by decide +kernel
theorem dX0_part_45 : decode cX0_part 45 = .ok (.ireturn, 1) := by decide +kernel
theorem dX0_part_46 : decode cX0_part 46 = .ok (.aload_n 0, 1) := by decide +kernel
theorem dX0_part_47 : decode cX0_part 47 = .ok (.getfield 31, 3) := by decide +kernel
theorem dX0_part_50 : decode cX0_part 50 = .ok (.ireturn, 1) := by decide +kernel
theorem dX0_part_51 : decode cX0_part 51 = .ok (.aload_n 0, 1) := by decide +kernel
theorem dX0_part_52 : decode cX0_part 52 = .ok (.getfield 32, 3) := by decide +kernel
theorem dX0_part_55 : decode cX0_part 55 = .ok (.ireturn, 1) := by decide +kernel
theorem dX0_part_56 : decode cX0_part 56 = .ok (.aload_n 0, 1) := by decide +kernel
theorem dX0_part_57 : decode cX0_part 57 = .ok (.getfield 15, 3) := by decide +kernel
theorem dX0_part_60 : decode cX0_part 60 = .ok (.ireturn, 1) := by decide +kernel
theorem dX0_part_61 : decode cX0_part 61 = .ok (.iconst (-1), 1) := by decide +kernel
theorem dX0_part_62 : decode cX0_part 62 = .ok (.ireturn, 1) := by decide +kernel
theorem dX1_init_0 : decode cX1_init 0 = .ok (.aload_n 0, 1) := by decide +kernel
theorem dX1_init_1 : decode cX1_init 1 = .ok (.invokespecial 3, 3) := by decide +kernel
theorem dX1_init_4 : decode cX1_init 4 = .ok (.aload_n 0, 1) := by decide +kernel
theorem dX1_init_5 : decode cX1_init 5 = .ok (.sipush 128, 3) := by decide +kernel
theorem dX1_init_8 : decode cX1_init 8 = .ok (.anewarray 9, 3) := by decide +kernel
theorem dX1_init_11 : decode cX1_init 11 = .ok (.putfield 11, 3) := by decide +kernel
theorem dX1_init_14 : decode cX1_init 14 = .ok (.return_, 1) := by decide +kernel
theorem dX1_at_0 : decode cX1_at 0 = .ok (.iload_n 1, 1) := by decide +kernel
theorem dX1_at_1 : decode cX1_at 1 = .ok (.ifCond .lt 29, 3) := by decide +kernel
theorem dX1_at_4 : decode cX1_at 4 = .ok (.iload_n 1, 1) := by decide +kernel
theorem dX1_at_5 : decode cX1_at 5 = .ok (.aload_n 0, 1) := by decide +kernel
theorem dX1_at_6 : decode cX1_at 6 = .ok (.getfield 17, 3) := by decide +kernel
theorem dX1_at_9 : decode cX1_at 9 = .ok (.if_icmp .ge 21, 3) := by decide +kernel
theorem dX1_at_12 : decode cX1_at 12 = .ok (.iload_n 1, 1) := by decide +kernel
theorem dX1_at_13 : decode cX1_at 13 = .ok (.aload_n 0, 1) := by decide +kernel
theorem dX1_at_14 : decode cX1_at 14 = .ok (.getfield 11, 3) := by decide +kernel
theorem dX1_at_17 : decode cX1_at 17 = .ok (.arraylength, 1) := by decide +kernel
theorem dX1_at_18 : decode cX1_at 18 = .ok (.if_icmp .ge 12, 3) := by decide +kernel
theorem dX1_at_21 : decode cX1_at 21 = .ok (.aload_n 0, 1) := by decide +kernel
theorem dX1_at_22 : decode cX1_at 22 = .ok (.getfield 11, 3) := by decide +kernel
theorem dX1_at_25 : decode cX1_at 25 = .ok (.iload_n 1, 1) := by decide +kernel
theorem dX1_at_26 : decode cX1_at 26 = .ok (.aaload, 1) := by decide +kernel
theorem dX1_at_27 : decode cX1_at 27 = .ok (.goto 4, 3) := by decide +kernel
theorem dX1_at_30 : decode cX1_at 30 = .ok (.aconst_null, 1) := by decide +kernel
theorem dX1_at_31 : decode cX1_at 31 = .ok (.areturn, 1) := by decide +kernel
theorem dX1_append_0 : decode cX1_append 0 = .ok (.aload_n 0, 1) := by decide +kernel
theorem dX1_append_1 : decode cX1_append 1 = .ok (.getfield 17, 3) := by decide +kernel
theorem dX1_append_4 : decode cX1_append 4 = .ok (.aload_n 0, 1) := by decide +kernel
theorem dX1_append_5 : decode cX1_append 5 = .ok (.getfield 11, 3) := by decide +kernel
theorem dX1_append_8 : decode cX1_append 8 = .ok (.arraylength, 1) := by decide +kernel
theorem dX1_append_9 : decode cX1_append 9 = .ok (.if_icmp .ge 23, 3) := by decide +kernel
theorem dX1_append_12 : decode cX1_append 12 = .ok (.aload_n 0, 1) := by decide +kernel
theorem dX1_append_13 : decode cX1_append 13 = .ok (.getfield 11, 3) := by decide +kernel
theorem dX1_append_16 : decode cX1_append 16 = .ok (.aload_n 0, 1) := by decide +kernel
theorem dX1_append_17 : decode cX1_append 17 = .ok (.getfield 17, 3) := by decide +kernel
theorem dX1_append_20 : decode cX1_append 20 = .ok (.aload_n 1, 1) := by decide +kernel
theorem dX1_append_21 : decode cX1_append 21 = .ok (.aastore, 1) := by decide +kernel
theorem dX1_append_22 : decode cX1_append 22 = .ok (.aload_n 0, 1) := by decide +kernel
theorem dX1_append_23 : decode cX1_append 23 = .ok (.dup, 1) := by decide +kernel
theorem dX1_append_24 : decode cX1_append 24 = .ok (.getfield 17, 3) := by decide +kernel
theorem dX1_append_27 : decode cX1_append 27 = .ok (.iconst 1, 1) := by decide +kernel
theorem dX1_append_28 : decode cX1_append 28 = .ok (.iadd, 1) := by decide +kernel
theorem dX1_append_29 : decode cX1_append 29 = .ok (.putfield 17, 3) := by decide +kernel
theorem dX1_append_32 : decode cX1_append 32 = .ok (.return_, 1) := by decide +kernel
theorem dX1_firstAbove_0 : decode cX1_firstAbove 0 = .ok (.iconst 0, 1) := by decide +kernel
theorem dX1_firstAbove_1 : decode cX1_firstAbove 1 = .ok (.istore_n 2, 1) := by decide +kernel
theorem dX1_firstAbove_2 : decode cX1_firstAbove 2 = .ok (.iload_n 2, 1) := by decide +kernel
theorem dX1_firstAbove_3 : decode cX1_firstAbove 3 = .ok (.aload_n 0, 1) := by decide +kernel
theorem dX1_firstAbove_4 : decode cX1_firstAbove 4 = .ok (.getfield 17, 3) := by decide +kernel
theorem dX1_firstAbove_7 : decode cX1_firstAbove 7 = .ok (.if_icmp .ge 29, 3) := by decide +kernel
theorem dX1_firstAbove_10 : decode cX1_firstAbove 10 = .ok (.aload_n 0, 1) := by decide +kernel
theorem dX1_firstAbove_11 : decode cX1_firstAbove 11 = .ok (.iload_n 2, 1) := by decide +kernel
theorem dX1_firstAbove_12 : decode cX1_firstAbove 12 = .ok (.invokevirtual 21, 3) := by decide +kernel
theorem dX1_firstAbove_15 : decode cX1_firstAbove 15 = .ok (.astore_n 3, 1) := by decide +kernel
theorem dX1_firstAbove_16 : decode cX1_firstAbove 16 = .ok (.aload_n 3, 1) := by decide +kernel
theorem dX1_firstAbove_17 : decode cX1_firstAbove 17 = .ok (.ifnull 13, 3) := by decide +kernel
theorem dX1_firstAbove_20 : decode cX1_firstAbove 20 = .ok (.aload_n 3, 1) := by decide +kernel
theorem dX1_firstAbove_21 : decode cX1_firstAbove 21 = .ok (.getfield 25, 3) := by decide +kernel
theorem dX1_firstAbove_24 : decode cX1_firstAbove 24 = .ok (.iload_n 1, 1) := by decide +kernel
theorem dX1_firstAbove_25 : decode cX1_firstAbove 25 = .ok (.if_icmp .le 5, 3) := by decide +kernel
theorem dX1_firstAbove_28 : decode cX1_firstAbove 28 = .ok (.aload_n 3, 1) := by decide +kernel
theorem dX1_firstAbove_29 : decode cX1_firstAbove 29 = .ok (.areturn, 1) := by decide +kernel
theorem dX1_firstAbove_30 : decode cX1_firstAbove 30 = .ok (.iinc 2 1, 3) := by decide +kernel
theorem dX1_firstAbove_33 : decode cX1_firstAbove 33 = .ok (.goto (-31), 3) := by decide +kernel
theorem dX1_firstAbove_36 : decode cX1_firstAbove 36 = .ok (.aconst_null, 1) := by decide +kernel
theorem dX1_firstAbove_37 : decode cX1_firstAbove 37 = .ok (.areturn, 1) := by decide +kernel
theorem dX1_drop_0 : decode cX1_drop 0 = .ok (.iconst 0, 1) := by decide +kernel
theorem dX1_drop_1 : decode cX1_drop 1 = .ok (.istore_n 2, 1) := by decide +kernel
theorem dX1_drop_2 : decode cX1_drop 2 = .ok (.iconst 0, 1) := by decide +kernel
theorem dX1_drop_3 : decode cX1_drop 3 = .ok (.istore_n 3, 1) := by decide +kernel
theorem dX1_drop_4 : decode cX1_drop 4 = .ok (.iload_n 3, 1) := by decide +kernel
theorem dX1_drop_5 : decode cX1_drop 5 = .ok (.aload_n 0, 1) := by decide +kernel
theorem dX1_drop_6 : decode cX1_drop 6 = .ok (.getfield 17, 3) := by decide +kernel
theorem dX1_drop_9 : decode cX1_drop 9 = .ok (.if_icmp .ge 41, 3) := by decide +kernel
theorem dX1_drop_12 : decode cX1_drop 12 = .ok (.aload_n 0, 1) := by decide +kernel
theorem dX1_drop_13 : decode cX1_drop 13 = .ok (.iload_n 3, 1) := by decide +kernel
theorem dX1_drop_14 : decode cX1_drop 14 = .ok (.invokevirtual 21, 3) := by decide +kernel
theorem dX1_drop_17 : decode cX1_drop 17 = .ok (.astore 4, 2) := by decide +kernel
theorem dX1_drop_19 : decode cX1_drop 19 = .ok (.aload 4, 2) := by decide +kernel
theorem dX1_drop_21 : decode cX1_drop 21 = .ok (.ifnull 23, 3) := by decide +kernel
theorem dX1_drop_24 : decode cX1_drop 24 = .ok (.aload 4, 2) := by decide +kernel
theorem dX1_drop_26 : decode cX1_drop 26 = .ok (.getfield 25, 3) := by decide +kernel
theorem dX1_drop_29 : decode cX1_drop 29 = .ok (.iload_n 1, 1) := by decide +kernel
theorem dX1_drop_30 : decode cX1_drop 30 = .ok (.if_icmp .eq 14, 3) := by decide +kernel
theorem dX1_drop_33 : decode cX1_drop 33 = .ok (.aload_n 0, 1) := by decide +kernel
theorem dX1_drop_34 : decode cX1_drop 34 = .ok (.getfield 11, 3) := by decide +kernel
theorem dX1_drop_37 : decode cX1_drop 37 = .ok (.iload_n 2, 1) := by decide +kernel
theorem dX1_drop_38 : decode cX1_drop 38 = .ok (.aload 4, 2) := by decide +kernel
theorem dX1_drop_40 : decode cX1_drop 40 = .ok (.aastore, 1) := by decide +kernel
theorem dX1_drop_41 : decode cX1_drop 41 = .ok (.iinc 2 1, 3) := by decide +kernel
theorem dX1_drop_44 : decode cX1_drop 44 = .ok (.iinc 3 1, 3) := by decide +kernel
theorem dX1_drop_47 : decode cX1_drop 47 = .ok (.goto (-43), 3) := by decide +kernel
theorem dX1_drop_50 : decode cX1_drop 50 = .ok (.iload_n 2, 1) := by decide +kernel
theorem dX1_drop_51 : decode cX1_drop 51 = .ok (.istore_n 3, 1) := by decide +kernel
theorem dX1_drop_52 : decode cX1_drop 52 = .ok (.iload_n 3, 1) := by decide +kernel
theorem dX1_drop_53 : decode cX1_drop 53 = .ok (.aload_n 0, 1) := by decide +kernel
theorem dX1_drop_54 : decode cX1_drop 54 = .ok (.getfield 17, 3) := by decide +kernel
theorem dX1_drop_57 : decode cX1_drop 57 = .ok (.if_icmp .ge 16, 3) := by decide +kernel
theorem dX1_drop_60 : decode cX1_drop 60 = .ok (.aload_n 0, 1) := by decide +kernel
theorem dX1_drop_61 : decode cX1_drop 61 = .ok (.getfield 11, 3) := by decide +kernel
theorem dX1_drop_64 : decode cX1_drop 64 = .ok (.iload_n 3, 1) := by decide +kernel
theorem dX1_drop_65 : decode cX1_drop 65 = .ok (.aconst_null, 1) := by decide +kernel
theorem dX1_drop_66 : decode cX1_drop 66 = .ok (.aastore, 1) := by decide +kernel
theorem dX1_drop_67 : decode cX1_drop 67 = .ok (.iinc 3 1, 3) := by decide +kernel
theorem dX1_drop_70 : decode cX1_drop 70 = .ok (.goto (-18), 3) := by decide +kernel
theorem dX1_drop_73 : decode cX1_drop 73 = .ok (.aload_n 0, 1) := by decide +kernel
theorem dX1_drop_74 : decode cX1_drop 74 = .ok (.iload_n 2, 1) := by decide +kernel
theorem dX1_drop_75 : decode cX1_drop 75 = .ok (.putfield 17, 3) := by decide +kernel
theorem dX1_drop_78 : decode cX1_drop 78 = .ok (.return_, 1) := by decide +kernel
theorem dX2_init_0 : decode cX2_init 0 = .ok (.aload_n 0, 1) := by decide +kernel
theorem dX2_init_1 : decode cX2_init 1 = .ok (.invokespecial 1, 3) := by decide +kernel
theorem dX2_init_4 : decode cX2_init 4 = .ok (.return_, 1) := by decide +kernel
theorem dX2_matches_0 : decode cX2_matches 0 = .ok (.aload_n 0, 1) := by decide +kernel
theorem dX2_matches_1 : decode cX2_matches 1 = .ok (.getfield 7, 3) := by decide +kernel
theorem dX2_matches_4 : decode cX2_matches 4 = .ok (.ifCond .eq 36, 3) := by decide +kernel
theorem dX2_matches_7 : decode cX2_matches 7 = .ok (.aload_n 1, 1) := by decide +kernel
theorem dX2_matches_8 : decode cX2_matches 8 = .ok (.getfield 7, 3) := by decide +kernel
theorem dX2_matches_11 : decode cX2_matches 11 = .ok (.ifCond .eq 29, 3) := by decide +kernel
theorem dX2_matches_14 : decode cX2_matches 14 = .ok (.aload_n 0, 1) := by decide +kernel
theorem dX2_matches_15 : decode cX2_matches 15 = .ok (.getfield 13, 3) := by decide +kernel
theorem dX2_matches_18 : decode cX2_matches 18 = .ok (.aload_n 1, 1) := by decide +kernel
theorem dX2_matches_19 : decode cX2_matches 19 = .ok (.getfield 13, 3) := by decide +kernel
theorem dX2_matches_22 : decode cX2_matches 22 = .ok (.if_icmp .ne 18, 3) := by decide +kernel
theorem dX2_matches_25 : decode cX2_matches 25 = .ok (.aload_n 0, 1) := by decide +kernel
theorem dX2_matches_26 : decode cX2_matches 26 = .ok (.getfield 17, 3) := by decide +kernel
theorem dX2_matches_29 : decode cX2_matches 29 = .ok (.aload_n 1, 1) := by decide +kernel
theorem dX2_matches_30 : decode cX2_matches 30 = .ok (.getfield 17, 3) := by decide +kernel
theorem dX2_matches_33 : decode cX2_matches 33 = .ok (.if_icmp .eq 7, 3) := by decide +kernel
theorem dX2_matches_36 : decode cX2_matches 36 = .ok (.iconst 1, 1) := by decide +kernel
theorem dX2_matches_37 : decode cX2_matches 37 = .ok (.goto 4, 3) := by decide +kernel
theorem dX2_matches_40 : decode cX2_matches 40 = .ok (.iconst 0, 1) := by decide +kernel
theorem dX2_matches_41 : decode cX2_matches 41 = .ok (.ireturn, 1) := by decide +kernel
theorem dX3_init_0 : decode cX3_init 0 = .ok (.aload_n 0, 1) := by decide +kernel
theorem dX3_init_1 : decode cX3_init 1 = .ok (.invokespecial 3, 3) := by decide +kernel
theorem dX3_init_4 : decode cX3_init 4 = .ok (.return_, 1) := by decide +kernel
theorem dX3_set_0 : decode cX3_set 0 = .ok (.aload_n 0, 1) := by decide +kernel
theorem dX3_set_1 : decode cX3_set 1 = .ok (.iconst 1, 1) := by decide +kernel
theorem dX3_set_2 : decode cX3_set 2 = .ok (.putfield 9, 3) := by decide +kernel
theorem dX3_set_5 : decode cX3_set 5 = .ok (.aload_n 0, 1) := by decide +kernel
theorem dX3_set_6 : decode cX3_set 6 = .ok (.iload_n 1, 1) := by decide +kernel
theorem dX3_set_7 : decode cX3_set 7 = .ok (.putfield 15, 3) := by decide +kernel
theorem dX3_set_10 : decode cX3_set 10 = .ok (.aload_n 0, 1) := by decide +kernel
theorem dX3_set_11 : decode cX3_set 11 = .ok (.iload_n 2, 1) := by decide +kernel
theorem dX3_set_12 : decode cX3_set 12 = .ok (.putfield 19, 3) := by decide +kernel
theorem dX3_set_15 : decode cX3_set 15 = .ok (.aload_n 0, 1) := by decide +kernel
theorem dX3_set_16 : decode cX3_set 16 = .ok (.iload_n 3, 1) := by decide +kernel
theorem dX3_set_17 : decode cX3_set 17 = .ok (.putfield 22, 3) := by decide +kernel
theorem dX3_set_20 : decode cX3_set 20 = .ok (.aload_n 0, 1) := by decide +kernel
theorem dX3_set_21 : decode cX3_set 21 = .ok (.iload 4, 2) := by decide +kernel
theorem dX3_set_23 : decode cX3_set 23 = .ok (.putfield 25, 3) := by decide +kernel
theorem dX3_set_26 : decode cX3_set 26 = .ok (.return_, 1) := by decide +kernel
theorem dX3_part_0 : decode cX3_part 0 = .ok (.aload_n 0, 1) := by decide +kernel
theorem dX3_part_1 : decode cX3_part 1 = .ok (.getfield 9, 3) := by decide +kernel
theorem dX3_part_4 : decode cX3_part 4 = .ok (.ifCond .ne 5, 3) := by decide +kernel
theorem dX3_part_7 : decode cX3_part 7 = .ok (.iconst (-1), 1) := by decide +kernel
theorem dX3_part_8 : decode cX3_part 8 = .ok (.ireturn, 1) := by decide +kernel
theorem dX3_part_9 : decode cX3_part 9 = .ok (.iload_n 1, 1) := by decide +kernel
theorem dX3_part_10 : decode cX3_part 10 = .ok (.tableswitch 50 0 3 #[30, 35, 40, 45], 30) := by decide +kernel
theorem dX3_part_40 : decode cX3_part 40 = .ok (.aload_n 0, 1) := by decide +kernel
theorem dX3_part_41 : decode cX3_part 41 = .ok (.getfield 15, 3) := by decide +kernel
theorem dX3_part_44 : decode cX3_part 44 = .ok (.ireturn, 1) := by decide +kernel
theorem dX3_part_45 : decode cX3_part 45 = .ok (.aload_n 0, 1) := by decide +kernel
theorem dX3_part_46 : decode cX3_part 46 = .ok (.getfield 19, 3) := by decide +kernel
theorem dX3_part_49 : decode cX3_part 49 = .ok (.ireturn, 1) := by decide +kernel
theorem dX3_part_50 : decode cX3_part 50 = .ok (.aload_n 0, 1) := by decide +kernel
theorem dX3_part_51 : decode cX3_part 51 = .ok (.getfield 22, 3) := by decide +kernel
theorem dX3_part_54 : decode cX3_part 54 = .ok (.ireturn, 1) := by decide +kernel
theorem dX3_part_55 : decode cX3_part 55 = .ok (.aload_n 0, 1) := by decide +kernel
theorem dX3_part_56 : decode cX3_part 56 = .ok (.getfield 25, 3) := by decide +kernel
theorem dX3_part_59 : decode cX3_part 59 = .ok (.ireturn, 1) := by decide +kernel
theorem dX3_part_60 : decode cX3_part 60 = .ok (.iconst (-1), 1) := by decide +kernel
theorem dX3_part_61 : decode cX3_part 61 = .ok (.ireturn, 1) := by decide +kernel
theorem dX4_init_0 : decode cX4_init 0 = .ok (.aload_n 0, 1) := by decide +kernel
theorem dX4_init_1 : decode cX4_init 1 = .ok (.invokespecial 3, 3) := by decide +kernel
theorem dX4_init_4 : decode cX4_init 4 = .ok (.aload_n 0, 1) := by decide +kernel
theorem dX4_init_5 : decode cX4_init 5 = .ok (.sipush 1600, 3) := by decide +kernel
theorem dX4_init_8 : decode cX4_init 8 = .ok (.newarray .int, 2) := by decide +kernel
theorem dX4_init_10 : decode cX4_init 10 = .ok (.putfield 9, 3) := by decide +kernel
theorem dX4_init_13 : decode cX4_init 13 = .ok (.return_, 1) := by decide +kernel
theorem dX4_add_0 : decode cX4_add 0 = .ok (.aload_n 0, 1) := by decide +kernel
theorem dX4_add_1 : decode cX4_add 1 = .ok (.getfield 15, 3) := by decide +kernel
theorem dX4_add_4 : decode cX4_add 4 = .ok (.sipush 200, 3) := by decide +kernel
theorem dX4_add_7 : decode cX4_add 7 = .ok (.if_icmp .ge 155, 3) := by decide +kernel
theorem dX4_add_10 : decode cX4_add 10 = .ok (.aload_n 0, 1) := by decide +kernel
theorem dX4_add_11 : decode cX4_add 11 = .ok (.getfield 15, 3) := by decide +kernel
theorem dX4_add_14 : decode cX4_add 14 = .ok (.bipush 8, 2) := by decide +kernel
theorem dX4_add_16 : decode cX4_add 16 = .ok (.imul, 1) := by decide +kernel
theorem dX4_add_17 : decode cX4_add 17 = .ok (.istore 5, 2) := by decide +kernel
theorem dX4_add_19 : decode cX4_add 19 = .ok (.aload_n 3, 1) := by decide +kernel
theorem dX4_add_20 : decode cX4_add 20 = .ok (.getfield 19, 3) := by decide +kernel
theorem dX4_add_23 : decode cX4_add 23 = .ok (.ifCond .ne 7, 3) := by decide +kernel
theorem dX4_add_26 : decode cX4_add 26 = .ok (.iconst 1, 1) := by decide +kernel
theorem dX4_add_27 : decode cX4_add 27 = .ok (.goto 4, 3) := by decide +kernel
theorem dX4_add_30 : decode cX4_add 30 = .ok (.iconst 0, 1) := by decide +kernel
theorem dX4_add_31 : decode cX4_add 31 = .ok (.istore 6, 2) := by decide +kernel
theorem dX4_add_33 : decode cX4_add 33 = .ok (.aload_n 0, 1) := by decide +kernel
theorem dX4_add_34 : decode cX4_add 34 = .ok (.getfield 9, 3) := by decide +kernel
theorem dX4_add_37 : decode cX4_add 37 = .ok (.iload 5, 2) := by decide +kernel
theorem dX4_add_39 : decode cX4_add 39 = .ok (.aload_n 1, 1) := by decide +kernel
theorem dX4_add_40 : decode cX4_add 40 = .ok (.getfield 24, 3) := by decide +kernel
theorem dX4_add_43 : decode cX4_add 43 = .ok (.iastore, 1) := by decide +kernel
theorem dX4_add_44 : decode cX4_add 44 = .ok (.aload_n 0, 1) := by decide +kernel
theorem dX4_add_45 : decode cX4_add 45 = .ok (.getfield 9, 3) := by decide +kernel
theorem dX4_add_48 : decode cX4_add 48 = .ok (.iload 5, 2) := by decide +kernel
theorem dX4_add_50 : decode cX4_add 50 = .ok (.iconst 1, 1) := by decide +kernel
theorem dX4_add_51 : decode cX4_add 51 = .ok (.iadd, 1) := by decide +kernel
theorem dX4_add_52 : decode cX4_add 52 = .ok (.aload_n 2, 1) := by decide +kernel
theorem dX4_add_53 : decode cX4_add 53 = .ok (.getfield 29, 3) := by decide +kernel
theorem dX4_add_56 : decode cX4_add 56 = .ok (.iastore, 1) := by decide +kernel
theorem dX4_add_57 : decode cX4_add 57 = .ok (.aload_n 0, 1) := by decide +kernel
theorem dX4_add_58 : decode cX4_add 58 = .ok (.getfield 9, 3) := by decide +kernel
theorem dX4_add_61 : decode cX4_add 61 = .ok (.iload 5, 2) := by decide +kernel
theorem dX4_add_63 : decode cX4_add 63 = .ok (.iconst 2, 1) := by decide +kernel
theorem dX4_add_64 : decode cX4_add 64 = .ok (.iadd, 1) := by decide +kernel
theorem dX4_add_65 : decode cX4_add 65 = .ok (.aload_n 3, 1) := by decide +kernel
theorem dX4_add_66 : decode cX4_add 66 = .ok (.getfield 34, 3) := by decide +kernel
theorem dX4_add_69 : decode cX4_add 69 = .ok (.iastore, 1) := by decide +kernel
theorem dX4_add_70 : decode cX4_add 70 = .ok (.aload_n 0, 1) := by decide +kernel
theorem dX4_add_71 : decode cX4_add 71 = .ok (.getfield 9, 3) := by decide +kernel
theorem dX4_add_74 : decode cX4_add 74 = .ok (.iload 5, 2) := by decide +kernel
theorem dX4_add_76 : decode cX4_add 76 = .ok (.iconst 3, 1) := by decide +kernel
theorem dX4_add_77 : decode cX4_add 77 = .ok (.iadd, 1) := by decide +kernel
theorem dX4_add_78 : decode cX4_add 78 = .ok (.iload 6, 2) := by decide +kernel
theorem dX4_add_80 : decode cX4_add 80 = .ok (.ifCond .eq 10, 3) := by decide +kernel
theorem dX4_add_83 : decode cX4_add 83 = .ok (.aload_n 3, 1) := by decide +kernel
theorem dX4_add_84 : decode cX4_add 84 = .ok (.getfield 37, 3) := by decide +kernel
theorem dX4_add_87 : decode cX4_add 87 = .ok (.goto 7, 3) := by decide +kernel
theorem dX4_add_90 : decode cX4_add 90 = .ok (.aload_n 2, 1) := by decide +kernel
theorem dX4_add_91 : decode cX4_add 91 = .ok (.getfield 40, 3) := by decide +kernel
theorem dX4_add_94 : decode cX4_add 94 = .ok (.iastore, 1) := by decide +kernel
theorem dX4_add_95 : decode cX4_add 95 = .ok (.aload_n 0, 1) := by decide +kernel
theorem dX4_add_96 : decode cX4_add 96 = .ok (.getfield 9, 3) := by decide +kernel
theorem dX4_add_99 : decode cX4_add 99 = .ok (.iload 5, 2) := by decide +kernel
theorem dX4_add_101 : decode cX4_add 101 = .ok (.iconst 4, 1) := by decide +kernel
theorem dX4_add_102 : decode cX4_add 102 = .ok (.iadd, 1) := by decide +kernel
theorem dX4_add_103 : decode cX4_add 103 = .ok (.iload 6, 2) := by decide +kernel
theorem dX4_add_105 : decode cX4_add 105 = .ok (.ifCond .eq 10, 3) := by decide +kernel
theorem dX4_add_108 : decode cX4_add 108 = .ok (.aload_n 1, 1) := by decide +kernel
theorem dX4_add_109 : decode cX4_add 109 = .ok (.getfield 24, 3) := by decide +kernel
theorem dX4_add_112 : decode cX4_add 112 = .ok (.goto 7, 3) := by decide +kernel
theorem dX4_add_115 : decode cX4_add 115 = .ok (.aload_n 2, 1) := by decide +kernel
theorem dX4_add_116 : decode cX4_add 116 = .ok (.getfield 29, 3) := by decide +kernel
theorem dX4_add_119 : decode cX4_add 119 = .ok (.iastore, 1) := by decide +kernel
theorem dX4_add_120 : decode cX4_add 120 = .ok (.aload_n 0, 1) := by decide +kernel
theorem dX4_add_121 : decode cX4_add 121 = .ok (.getfield 9, 3) := by decide +kernel
theorem dX4_add_124 : decode cX4_add 124 = .ok (.iload 5, 2) := by decide +kernel
theorem dX4_add_126 : decode cX4_add 126 = .ok (.iconst 5, 1) := by decide +kernel
theorem dX4_add_127 : decode cX4_add 127 = .ok (.iadd, 1) := by decide +kernel
theorem dX4_add_128 : decode cX4_add 128 = .ok (.aload_n 1, 1) := by decide +kernel
theorem dX4_add_129 : decode cX4_add 129 = .ok (.getfield 41, 3) := by decide +kernel
theorem dX4_add_132 : decode cX4_add 132 = .ok (.getfield 45, 3) := by decide +kernel
theorem dX4_add_135 : decode cX4_add 135 = .ok (.iastore, 1) := by decide +kernel
theorem dX4_add_136 : decode cX4_add 136 = .ok (.aload_n 0, 1) := by decide +kernel
theorem dX4_add_137 : decode cX4_add 137 = .ok (.getfield 9, 3) := by decide +kernel
theorem dX4_add_140 : decode cX4_add 140 = .ok (.iload 5, 2) := by decide +kernel
theorem dX4_add_142 : decode cX4_add 142 = .ok (.bipush 6, 2) := by decide +kernel
theorem dX4_add_144 : decode cX4_add 144 = .ok (.iadd, 1) := by decide +kernel
theorem dX4_add_145 : decode cX4_add 145 = .ok (.aload_n 2, 1) := by decide +kernel
theorem dX4_add_146 : decode cX4_add 146 = .ok (.getfield 50, 3) := by decide +kernel
theorem dX4_add_149 : decode cX4_add 149 = .ok (.iastore, 1) := by decide +kernel
theorem dX4_add_150 : decode cX4_add 150 = .ok (.aload_n 0, 1) := by decide +kernel
theorem dX4_add_151 : decode cX4_add 151 = .ok (.getfield 9, 3) := by decide +kernel
theorem dX4_add_154 : decode cX4_add 154 = .ok (.iload 5, 2) := by decide +kernel
theorem dX4_add_156 : decode cX4_add 156 = .ok (.bipush 7, 2) := by decide +kernel
theorem dX4_add_158 : decode cX4_add 158 = .ok (.iadd, 1) := by decide +kernel
theorem dX4_add_159 : decode cX4_add 159 = .ok (.iload 4, 2) := by decide +kernel
theorem dX4_add_161 : decode cX4_add 161 = .ok (.iastore, 1) := by decide +kernel
theorem dX4_add_162 : decode cX4_add 162 = .ok (.aload_n 0, 1) := by decide +kernel
theorem dX4_add_163 : decode cX4_add 163 = .ok (.dup, 1) := by decide +kernel
theorem dX4_add_164 : decode cX4_add 164 = .ok (.getfield 15, 3) := by decide +kernel
theorem dX4_add_167 : decode cX4_add 167 = .ok (.iconst 1, 1) := by decide +kernel
theorem dX4_add_168 : decode cX4_add 168 = .ok (.iadd, 1) := by decide +kernel
theorem dX4_add_169 : decode cX4_add 169 = .ok (.putfield 15, 3) := by decide +kernel
theorem dX4_add_172 : decode cX4_add 172 = .ok (.return_, 1) := by decide +kernel
theorem dX4_part_0 : decode cX4_part 0 = .ok (.iload_n 1, 1) := by decide +kernel
theorem dX4_part_1 : decode cX4_part 1 = .ok (.ifCond .lt 28, 3) := by decide +kernel
theorem dX4_part_4 : decode cX4_part 4 = .ok (.iload_n 1, 1) := by decide +kernel
theorem dX4_part_5 : decode cX4_part 5 = .ok (.aload_n 0, 1) := by decide +kernel
theorem dX4_part_6 : decode cX4_part 6 = .ok (.getfield 15, 3) := by decide +kernel
theorem dX4_part_9 : decode cX4_part 9 = .ok (.if_icmp .ge 20, 3) := by decide +kernel
theorem dX4_part_12 : decode cX4_part 12 = .ok (.iload_n 1, 1) := by decide +kernel
theorem dX4_part_13 : decode cX4_part 13 = .ok (.sipush 200, 3) := by decide +kernel
theorem dX4_part_16 : decode cX4_part 16 = .ok (.if_icmp .ge 13, 3) := by decide +kernel
theorem dX4_part_19 : decode cX4_part 19 = .ok (.iload_n 2, 1) := by decide +kernel
theorem dX4_part_20 : decode cX4_part 20 = .ok (.ifCond .lt 9, 3) := by decide +kernel
theorem dX4_part_23 : decode cX4_part 23 = .ok (.iload_n 2, 1) := by decide +kernel
theorem dX4_part_24 : decode cX4_part 24 = .ok (.bipush 8, 2) := by decide +kernel
theorem dX4_part_26 : decode cX4_part 26 = .ok (.if_icmp .lt 5, 3) := by decide +kernel
theorem dX4_part_29 : decode cX4_part 29 = .ok (.iconst (-1), 1) := by decide +kernel
theorem dX4_part_30 : decode cX4_part 30 = .ok (.ireturn, 1) := by decide +kernel
theorem dX4_part_31 : decode cX4_part 31 = .ok (.aload_n 0, 1) := by decide +kernel
theorem dX4_part_32 : decode cX4_part 32 = .ok (.getfield 9, 3) := by decide +kernel
theorem dX4_part_35 : decode cX4_part 35 = .ok (.iload_n 1, 1) := by decide +kernel
theorem dX4_part_36 : decode cX4_part 36 = .ok (.bipush 8, 2) := by decide +kernel
theorem dX4_part_38 : decode cX4_part 38 = .ok (.imul, 1) := by decide +kernel
theorem dX4_part_39 : decode cX4_part 39 = .ok (.iload_n 2, 1) := by decide +kernel
theorem dX4_part_40 : decode cX4_part 40 = .ok (.iadd, 1) := by decide +kernel
theorem dX4_part_41 : decode cX4_part 41 = .ok (.iaload, 1) := by decide +kernel
theorem dX4_part_42 : decode cX4_part 42 = .ok (.ireturn, 1) := by decide +kernel
theorem dX5_init_0 : decode cX5_init 0 = .ok (.aload_n 0, 1) := by decide +kernel
theorem dX5_init_1 : decode cX5_init 1 = .ok (.invokespecial 3, 3) := by decide +kernel
theorem dX5_init_4 : decode cX5_init 4 = .ok (.aload_n 0, 1) := by decide +kernel
theorem dX5_init_5 : decode cX5_init 5 = .ok (.new 9, 3) := by decide +kernel
theorem dX5_init_8 : decode cX5_init 8 = .ok (.dup, 1) := by decide +kernel
theorem dX5_init_9 : decode cX5_init 9 = .ok (.invokespecial 11, 3) := by decide +kernel
theorem dX5_init_12 : decode cX5_init 12 = .ok (.putfield 12, 3) := by decide +kernel
theorem dX5_init_15 : decode cX5_init 15 = .ok (.aload_n 0, 1) := by decide +kernel
theorem dX5_init_16 : decode cX5_init 16 = .ok (.new 18, 3) := by decide +kernel
theorem dX5_init_19 : decode cX5_init 19 = .ok (.dup, 1) := by decide +kernel
theorem dX5_init_20 : decode cX5_init 20 = .ok (.invokespecial 20, 3) := by decide +kernel
theorem dX5_init_23 : decode cX5_init 23 = .ok (.putfield 21, 3) := by decide +kernel
theorem dX5_init_26 : decode cX5_init 26 = .ok (.aload_n 0, 1) := by decide +kernel
theorem dX5_init_27 : decode cX5_init 27 = .ok (.bipush 8, 2) := by decide +kernel
theorem dX5_init_29 : decode cX5_init 29 = .ok (.anewarray 25, 3) := by decide +kernel
theorem dX5_init_32 : decode cX5_init 32 = .ok (.putfield 27, 3) := by decide +kernel
theorem dX5_init_35 : decode cX5_init 35 = .ok (.aload_n 0, 1) := by decide +kernel
theorem dX5_init_36 : decode cX5_init 36 = .ok (.bipush 8, 2) := by decide +kernel
theorem dX5_init_38 : decode cX5_init 38 = .ok (.anewarray 31, 3) := by decide +kernel
theorem dX5_init_41 : decode cX5_init 41 = .ok (.putfield 33, 3) := by decide +kernel
theorem dX5_init_44 : decode cX5_init 44 = .ok (.aload_n 0, 1) := by decide +kernel
theorem dX5_init_45 : decode cX5_init 45 = .ok (.iconst 0, 1) := by decide +kernel
theorem dX5_init_46 : decode cX5_init 46 = .ok (.putfield 37, 3) := by decide +kernel
theorem dX5_init_49 : decode cX5_init 49 = .ok (.aload_n 0, 1) := by decide +kernel
theorem dX5_init_50 : decode cX5_init 50 = .ok (.iconst (-1), 1) := by decide +kernel
theorem dX5_init_51 : decode cX5_init 51 = .ok (.putfield 41, 3) := by decide +kernel
theorem dX5_init_54 : decode cX5_init 54 = .ok (.aload_n 0, 1) := by decide +kernel
theorem dX5_init_55 : decode cX5_init 55 = .ok (.iload_n 1, 1) := by decide +kernel
theorem dX5_init_56 : decode cX5_init 56 = .ok (.putfield 44, 3) := by decide +kernel
theorem dX5_init_59 : decode cX5_init 59 = .ok (.iconst 0, 1) := by decide +kernel
theorem dX5_init_60 : decode cX5_init 60 = .ok (.istore_n 2, 1) := by decide +kernel
theorem dX5_init_61 : decode cX5_init 61 = .ok (.iload_n 2, 1) := by decide +kernel
theorem dX5_init_62 : decode cX5_init 62 = .ok (.bipush 8, 2) := by decide +kernel
theorem dX5_init_64 : decode cX5_init 64 = .ok (.if_icmp .ge 22, 3) := by decide +kernel
theorem dX5_init_67 : decode cX5_init 67 = .ok (.aload_n 0, 1) := by decide +kernel
theorem dX5_init_68 : decode cX5_init 68 = .ok (.getfield 27, 3) := by decide +kernel
theorem dX5_init_71 : decode cX5_init 71 = .ok (.iload_n 2, 1) := by decide +kernel
theorem dX5_init_72 : decode cX5_init 72 = .ok (.new 25, 3) := by decide +kernel
theorem dX5_init_75 : decode cX5_init 75 = .ok (.dup, 1) := by decide +kernel
theorem dX5_init_76 : decode cX5_init 76 = .ok (.invokespecial 47, 3) := by decide +kernel
theorem dX5_init_79 : decode cX5_init 79 = .ok (.aastore, 1) := by decide +kernel
theorem dX5_init_80 : decode cX5_init 80 = .ok (.iinc 2 1, 3) := by decide +kernel
theorem dX5_init_83 : decode cX5_init 83 = .ok (.goto (-22), 3) := by decide +kernel
theorem dX5_init_86 : decode cX5_init 86 = .ok (.return_, 1) := by decide +kernel
theorem dX5_becomeIdle_0 : decode cX5_becomeIdle 0 = .ok (.aload_n 0, 1) := by decide +kernel
theorem dX5_becomeIdle_1 : decode cX5_becomeIdle 1 = .ok (.iconst 1, 1) := by decide +kernel
theorem dX5_becomeIdle_2 : decode cX5_becomeIdle 2 = .ok (.putfield 37, 3) := by decide +kernel
theorem dX5_becomeIdle_5 : decode cX5_becomeIdle 5 = .ok (.aload_n 0, 1) := by decide +kernel
theorem dX5_becomeIdle_6 : decode cX5_becomeIdle 6 = .ok (.iconst 0, 1) := by decide +kernel
theorem dX5_becomeIdle_7 : decode cX5_becomeIdle 7 = .ok (.putfield 48, 3) := by decide +kernel
theorem dX5_becomeIdle_10 : decode cX5_becomeIdle 10 = .ok (.aload_n 0, 1) := by decide +kernel
theorem dX5_becomeIdle_11 : decode cX5_becomeIdle 11 = .ok (.iconst 0, 1) := by decide +kernel
theorem dX5_becomeIdle_12 : decode cX5_becomeIdle 12 = .ok (.putfield 51, 3) := by decide +kernel
theorem dX5_becomeIdle_15 : decode cX5_becomeIdle 15 = .ok (.return_, 1) := by decide +kernel
theorem dX5_addGuard_0 : decode cX5_addGuard 0 = .ok (.aload_n 0, 1) := by decide +kernel
theorem dX5_addGuard_1 : decode cX5_addGuard 1 = .ok (.getfield 48, 3) := by decide +kernel
theorem dX5_addGuard_4 : decode cX5_addGuard 4 = .ok (.aload_n 0, 1) := by decide +kernel
theorem dX5_addGuard_5 : decode cX5_addGuard 5 = .ok (.getfield 27, 3) := by decide +kernel
theorem dX5_addGuard_8 : decode cX5_addGuard 8 = .ok (.arraylength, 1) := by decide +kernel
theorem dX5_addGuard_9 : decode cX5_addGuard 9 = .ok (.if_icmp .lt 5, 3) := by decide +kernel
theorem dX5_addGuard_12 : decode cX5_addGuard 12 = .ok (.iconst 0, 1) := by decide +kernel
theorem dX5_addGuard_13 : decode cX5_addGuard 13 = .ok (.ireturn, 1) := by decide +kernel
theorem dX5_addGuard_14 : decode cX5_addGuard 14 = .ok (.aload_n 0, 1) := by decide +kernel
theorem dX5_addGuard_15 : decode cX5_addGuard 15 = .ok (.getfield 27, 3) := by decide +kernel
theorem dX5_addGuard_18 : decode cX5_addGuard 18 = .ok (.aload_n 0, 1) := by decide +kernel
theorem dX5_addGuard_19 : decode cX5_addGuard 19 = .ok (.getfield 48, 3) := by decide +kernel
theorem dX5_addGuard_22 : decode cX5_addGuard 22 = .ok (.aaload, 1) := by decide +kernel
theorem dX5_addGuard_23 : decode cX5_addGuard 23 = .ok (.astore 5, 2) := by decide +kernel
theorem dX5_addGuard_25 : decode cX5_addGuard 25 = .ok (.aload 5, 2) := by decide +kernel
theorem dX5_addGuard_27 : decode cX5_addGuard 27 = .ok (.iload_n 1, 1) := by decide +kernel
theorem dX5_addGuard_28 : decode cX5_addGuard 28 = .ok (.putfield 54, 3) := by decide +kernel
theorem dX5_addGuard_31 : decode cX5_addGuard 31 = .ok (.aload 5, 2) := by decide +kernel
theorem dX5_addGuard_33 : decode cX5_addGuard 33 = .ok (.iload_n 2, 1) := by decide +kernel
theorem dX5_addGuard_34 : decode cX5_addGuard 34 = .ok (.putfield 57, 3) := by decide +kernel
theorem dX5_addGuard_37 : decode cX5_addGuard 37 = .ok (.aload 5, 2) := by decide +kernel
theorem dX5_addGuard_39 : decode cX5_addGuard 39 = .ok (.iload_n 3, 1) := by decide +kernel
theorem dX5_addGuard_40 : decode cX5_addGuard 40 = .ok (.putfield 60, 3) := by decide +kernel
theorem dX5_addGuard_43 : decode cX5_addGuard 43 = .ok (.aload 5, 2) := by decide +kernel
theorem dX5_addGuard_45 : decode cX5_addGuard 45 = .ok (.iload 4, 2) := by decide +kernel
theorem dX5_addGuard_47 : decode cX5_addGuard 47 = .ok (.putfield 63, 3) := by decide +kernel
theorem dX5_addGuard_50 : decode cX5_addGuard 50 = .ok (.aload_n 0, 1) := by decide +kernel
theorem dX5_addGuard_51 : decode cX5_addGuard 51 = .ok (.dup, 1) := by decide +kernel
theorem dX5_addGuard_52 : decode cX5_addGuard 52 = .ok (.getfield 48, 3) := by decide +kernel
theorem dX5_addGuard_55 : decode cX5_addGuard 55 = .ok (.iconst 1, 1) := by decide +kernel
theorem dX5_addGuard_56 : decode cX5_addGuard 56 = .ok (.iadd, 1) := by decide +kernel
theorem dX5_addGuard_57 : decode cX5_addGuard 57 = .ok (.putfield 48, 3) := by decide +kernel
theorem dX5_addGuard_60 : decode cX5_addGuard 60 = .ok (.iconst 1, 1) := by decide +kernel
theorem dX5_addGuard_61 : decode cX5_addGuard 61 = .ok (.ireturn, 1) := by decide +kernel
theorem dX5_beginOffer_0 : decode cX5_beginOffer 0 = .ok (.aload_n 0, 1) := by decide +kernel
theorem dX5_beginOffer_1 : decode cX5_beginOffer 1 = .ok (.getfield 12, 3) := by decide +kernel
theorem dX5_beginOffer_4 : decode cX5_beginOffer 4 = .ok (.dup, 1) := by decide +kernel
theorem dX5_beginOffer_5 : decode cX5_beginOffer 5 = .ok (.getfield 67, 3) := by decide +kernel
theorem dX5_beginOffer_8 : decode cX5_beginOffer 8 = .ok (.iconst 1, 1) := by decide +kernel
theorem dX5_beginOffer_9 : decode cX5_beginOffer 9 = .ok (.iadd, 1) := by decide +kernel
theorem dX5_beginOffer_10 : decode cX5_beginOffer 10 = .ok (.putfield 67, 3) := by decide +kernel
theorem dX5_beginOffer_13 : decode cX5_beginOffer 13 = .ok (.aload_n 0, 1) := by decide +kernel
theorem dX5_beginOffer_14 : decode cX5_beginOffer 14 = .ok (.getfield 12, 3) := by decide +kernel
theorem dX5_beginOffer_17 : decode cX5_beginOffer 17 = .ok (.iconst 1, 1) := by decide +kernel
theorem dX5_beginOffer_18 : decode cX5_beginOffer 18 = .ok (.invokevirtual 70, 3) := by decide +kernel
theorem dX5_beginOffer_21 : decode cX5_beginOffer 21 = .ok (.aload_n 0, 1) := by decide +kernel
theorem dX5_beginOffer_22 : decode cX5_beginOffer 22 = .ok (.aload_n 0, 1) := by decide +kernel
theorem dX5_beginOffer_23 : decode cX5_beginOffer 23 = .ok (.getfield 51, 3) := by decide +kernel
theorem dX5_beginOffer_26 : decode cX5_beginOffer 26 = .ok (.ifCond .le 12, 3) := by decide +kernel
theorem dX5_beginOffer_29 : decode cX5_beginOffer 29 = .ok (.iload_n 1, 1) := by decide +kernel
theorem dX5_beginOffer_30 : decode cX5_beginOffer 30 = .ok (.aload_n 0, 1) := by decide +kernel
theorem dX5_beginOffer_31 : decode cX5_beginOffer 31 = .ok (.getfield 51, 3) := by decide +kernel
theorem dX5_beginOffer_34 : decode cX5_beginOffer 34 = .ok (.iadd, 1) := by decide +kernel
theorem dX5_beginOffer_35 : decode cX5_beginOffer 35 = .ok (.goto 4, 3) := by decide +kernel
theorem dX5_beginOffer_38 : decode cX5_beginOffer 38 = .ok (.iconst (-1), 1) := by decide +kernel
theorem dX5_beginOffer_39 : decode cX5_beginOffer 39 = .ok (.putfield 41, 3) := by decide +kernel
theorem dX5_beginOffer_42 : decode cX5_beginOffer 42 = .ok (.aload_n 0, 1) := by decide +kernel
theorem dX5_beginOffer_43 : decode cX5_beginOffer 43 = .ok (.iconst 0, 1) := by decide +kernel
theorem dX5_beginOffer_44 : decode cX5_beginOffer 44 = .ok (.putfield 74, 3) := by decide +kernel
theorem dX5_beginOffer_47 : decode cX5_beginOffer 47 = .ok (.aload_n 0, 1) := by decide +kernel
theorem dX5_beginOffer_48 : decode cX5_beginOffer 48 = .ok (.iconst 0, 1) := by decide +kernel
theorem dX5_beginOffer_49 : decode cX5_beginOffer 49 = .ok (.putfield 77, 3) := by decide +kernel
theorem dX5_beginOffer_52 : decode cX5_beginOffer 52 = .ok (.aload_n 0, 1) := by decide +kernel
theorem dX5_beginOffer_53 : decode cX5_beginOffer 53 = .ok (.aconst_null, 1) := by decide +kernel
theorem dX5_beginOffer_54 : decode cX5_beginOffer 54 = .ok (.putfield 80, 3) := by decide +kernel
theorem dX5_beginOffer_57 : decode cX5_beginOffer 57 = .ok (.aload_n 0, 1) := by decide +kernel
theorem dX5_beginOffer_58 : decode cX5_beginOffer 58 = .ok (.iconst 0, 1) := by decide +kernel
theorem dX5_beginOffer_59 : decode cX5_beginOffer 59 = .ok (.putfield 84, 3) := by decide +kernel
theorem dX5_beginOffer_62 : decode cX5_beginOffer 62 = .ok (.aload_n 0, 1) := by decide +kernel
theorem dX5_beginOffer_63 : decode cX5_beginOffer 63 = .ok (.iconst 0, 1) := by decide +kernel
theorem dX5_beginOffer_64 : decode cX5_beginOffer 64 = .ok (.putfield 87, 3) := by decide +kernel
theorem dX5_beginOffer_67 : decode cX5_beginOffer 67 = .ok (.aload_n 0, 1) := by decide +kernel
theorem dX5_beginOffer_68 : decode cX5_beginOffer 68 = .ok (.iconst 0, 1) := by decide +kernel
theorem dX5_beginOffer_69 : decode cX5_beginOffer 69 = .ok (.putfield 90, 3) := by decide +kernel
theorem dX5_beginOffer_72 : decode cX5_beginOffer 72 = .ok (.aload_n 0, 1) := by decide +kernel
theorem dX5_beginOffer_73 : decode cX5_beginOffer 73 = .ok (.iconst 0, 1) := by decide +kernel
theorem dX5_beginOffer_74 : decode cX5_beginOffer 74 = .ok (.putfield 93, 3) := by decide +kernel
theorem dX5_beginOffer_77 : decode cX5_beginOffer 77 = .ok (.aload_n 0, 1) := by decide +kernel
theorem dX5_beginOffer_78 : decode cX5_beginOffer 78 = .ok (.iconst 0, 1) := by decide +kernel
theorem dX5_beginOffer_79 : decode cX5_beginOffer 79 = .ok (.putfield 96, 3) := by decide +kernel
theorem dX5_beginOffer_82 : decode cX5_beginOffer 82 = .ok (.aload_n 0, 1) := by decide +kernel
theorem dX5_beginOffer_83 : decode cX5_beginOffer 83 = .ok (.iconst 0, 1) := by decide +kernel
theorem dX5_beginOffer_84 : decode cX5_beginOffer 84 = .ok (.putfield 99, 3) := by decide +kernel
theorem dX5_beginOffer_87 : decode cX5_beginOffer 87 = .ok (.aload_n 0, 1) := by decide +kernel
theorem dX5_beginOffer_88 : decode cX5_beginOffer 88 = .ok (.iconst 0, 1) := by decide +kernel
theorem dX5_beginOffer_89 : decode cX5_beginOffer 89 = .ok (.invokevirtual 102, 3) := by decide +kernel
theorem dX5_beginOffer_92 : decode cX5_beginOffer 92 = .ok (.istore_n 2, 1) := by decide +kernel
theorem dX5_beginOffer_93 : decode cX5_beginOffer 93 = .ok (.aload_n 0, 1) := by decide +kernel
theorem dX5_beginOffer_94 : decode cX5_beginOffer 94 = .ok (.iload_n 2, 1) := by decide +kernel
theorem dX5_beginOffer_95 : decode cX5_beginOffer 95 = .ok (.iconst 0, 1) := by decide +kernel
theorem dX5_beginOffer_96 : decode cX5_beginOffer 96 = .ok (.invokestatic 106, 3) := by decide +kernel
theorem dX5_beginOffer_99 : decode cX5_beginOffer 99 = .ok (.putfield 112, 3) := by decide +kernel
theorem dX5_beginOffer_102 : decode cX5_beginOffer 102 = .ok (.aload_n 0, 1) := by decide +kernel
theorem dX5_beginOffer_103 : decode cX5_beginOffer 103 = .ok (.iload_n 2, 1) := by decide +kernel
theorem dX5_beginOffer_104 : decode cX5_beginOffer 104 = .ok (.iconst (-1), 1) := by decide +kernel
theorem dX5_beginOffer_105 : decode cX5_beginOffer 105 = .ok (.if_icmp .ne 8, 3) := by decide +kernel
theorem dX5_beginOffer_108 : decode cX5_beginOffer 108 = .ok (.bipush 9, 2) := by decide +kernel
theorem dX5_beginOffer_110 : decode cX5_beginOffer 110 = .ok (.goto 4, 3) := by decide +kernel
theorem dX5_beginOffer_113 : decode cX5_beginOffer 113 = .ok (.iconst 2, 1) := by decide +kernel
theorem dX5_beginOffer_114 : decode cX5_beginOffer 114 = .ok (.putfield 37, 3) := by decide +kernel
theorem dX5_beginOffer_117 : decode cX5_beginOffer 117 = .ok (.return_, 1) := by decide +kernel
theorem dX5_isOffering_0 : decode cX5_isOffering 0 = .ok (.aload_n 0, 1) := by decide +kernel
theorem dX5_isOffering_1 : decode cX5_isOffering 1 = .ok (.getfield 37, 3) := by decide +kernel
theorem dX5_isOffering_4 : decode cX5_isOffering 4 = .ok (.iconst 2, 1) := by decide +kernel
theorem dX5_isOffering_5 : decode cX5_isOffering 5 = .ok (.if_icmp .lt 16, 3) := by decide +kernel
theorem dX5_isOffering_8 : decode cX5_isOffering 8 = .ok (.aload_n 0, 1) := by decide +kernel
theorem dX5_isOffering_9 : decode cX5_isOffering 9 = .ok (.getfield 37, 3) := by decide +kernel
theorem dX5_isOffering_12 : decode cX5_isOffering 12 = .ok (.bipush 11, 2) := by decide +kernel
theorem dX5_isOffering_14 : decode cX5_isOffering 14 = .ok (.if_icmp .gt 7, 3) := by decide +kernel
theorem dX5_isOffering_17 : decode cX5_isOffering 17 = .ok (.iconst 1, 1) := by decide +kernel
theorem dX5_isOffering_18 : decode cX5_isOffering 18 = .ok (.goto 4, 3) := by decide +kernel
theorem dX5_isOffering_21 : decode cX5_isOffering 21 = .ok (.iconst 0, 1) := by decide +kernel
theorem dX5_isOffering_22 : decode cX5_isOffering 22 = .ok (.ireturn, 1) := by decide +kernel
theorem dX5_isClaiming_0 : decode cX5_isClaiming 0 = .ok (.aload_n 0, 1) := by decide +kernel
theorem dX5_isClaiming_1 : decode cX5_isClaiming 1 = .ok (.getfield 37, 3) := by decide +kernel
theorem dX5_isClaiming_4 : decode cX5_isClaiming 4 = .ok (.iconst 5, 1) := by decide +kernel
theorem dX5_isClaiming_5 : decode cX5_isClaiming 5 = .ok (.if_icmp .lt 16, 3) := by decide +kernel
theorem dX5_isClaiming_8 : decode cX5_isClaiming 8 = .ok (.aload_n 0, 1) := by decide +kernel
theorem dX5_isClaiming_9 : decode cX5_isClaiming 9 = .ok (.getfield 37, 3) := by decide +kernel
theorem dX5_isClaiming_12 : decode cX5_isClaiming 12 = .ok (.bipush 8, 2) := by decide +kernel
theorem dX5_isClaiming_14 : decode cX5_isClaiming 14 = .ok (.if_icmp .gt 7, 3) := by decide +kernel
theorem dX5_isClaiming_17 : decode cX5_isClaiming 17 = .ok (.iconst 1, 1) := by decide +kernel
theorem dX5_isClaiming_18 : decode cX5_isClaiming 18 = .ok (.goto 4, 3) := by decide +kernel
theorem dX5_isClaiming_21 : decode cX5_isClaiming 21 = .ok (.iconst 0, 1) := by decide +kernel
theorem dX5_isClaiming_22 : decode cX5_isClaiming 22 = .ok (.ireturn, 1) := by decide +kernel
theorem dX5_heedsTime_0 : decode cX5_heedsTime 0 = .ok (.aload_n 0, 1) := by decide +kernel
theorem dX5_heedsTime_1 : decode cX5_heedsTime 1 = .ok (.getfield 37, 3) := by decide +kernel
theorem dX5_heedsTime_4 : decode cX5_heedsTime 4 = .ok (.iconst 2, 1) := by decide +kernel
theorem dX5_heedsTime_5 : decode cX5_heedsTime 5 = .ok (.if_icmp .eq 29, 3) := by decide +kernel
theorem dX5_heedsTime_8 : decode cX5_heedsTime 8 = .ok (.aload_n 0, 1) := by decide +kernel
theorem dX5_heedsTime_9 : decode cX5_heedsTime 9 = .ok (.getfield 37, 3) := by decide +kernel
theorem dX5_heedsTime_12 : decode cX5_heedsTime 12 = .ok (.iconst 3, 1) := by decide +kernel
theorem dX5_heedsTime_13 : decode cX5_heedsTime 13 = .ok (.if_icmp .eq 21, 3) := by decide +kernel
theorem dX5_heedsTime_16 : decode cX5_heedsTime 16 = .ok (.aload_n 0, 1) := by decide +kernel
theorem dX5_heedsTime_17 : decode cX5_heedsTime 17 = .ok (.getfield 37, 3) := by decide +kernel
theorem dX5_heedsTime_20 : decode cX5_heedsTime 20 = .ok (.bipush 9, 2) := by decide +kernel
theorem dX5_heedsTime_22 : decode cX5_heedsTime 22 = .ok (.if_icmp .eq 12, 3) := by decide +kernel
theorem dX5_heedsTime_25 : decode cX5_heedsTime 25 = .ok (.aload_n 0, 1) := by decide +kernel
theorem dX5_heedsTime_26 : decode cX5_heedsTime 26 = .ok (.getfield 37, 3) := by decide +kernel
theorem dX5_heedsTime_29 : decode cX5_heedsTime 29 = .ok (.bipush 10, 2) := by decide +kernel
theorem dX5_heedsTime_31 : decode cX5_heedsTime 31 = .ok (.if_icmp .ne 7, 3) := by decide +kernel
theorem dX5_heedsTime_34 : decode cX5_heedsTime 34 = .ok (.iconst 1, 1) := by decide +kernel
theorem dX5_heedsTime_35 : decode cX5_heedsTime 35 = .ok (.goto 4, 3) := by decide +kernel
theorem dX5_heedsTime_38 : decode cX5_heedsTime 38 = .ok (.iconst 0, 1) := by decide +kernel
theorem dX5_heedsTime_39 : decode cX5_heedsTime 39 = .ok (.ireturn, 1) := by decide +kernel
theorem dX5_isDue_0 : decode cX5_isDue 0 = .ok (.aload_n 0, 1) := by decide +kernel
theorem dX5_isDue_1 : decode cX5_isDue 1 = .ok (.getfield 41, 3) := by decide +kernel
theorem dX5_isDue_4 : decode cX5_isDue 4 = .ok (.iconst (-1), 1) := by decide +kernel
theorem dX5_isDue_5 : decode cX5_isDue 5 = .ok (.if_icmp .eq 15, 3) := by decide +kernel
theorem dX5_isDue_8 : decode cX5_isDue 8 = .ok (.iload_n 1, 1) := by decide +kernel
theorem dX5_isDue_9 : decode cX5_isDue 9 = .ok (.aload_n 0, 1) := by decide +kernel
theorem dX5_isDue_10 : decode cX5_isDue 10 = .ok (.getfield 41, 3) := by decide +kernel
theorem dX5_isDue_13 : decode cX5_isDue 13 = .ok (.if_icmp .lt 7, 3) := by decide +kernel
theorem dX5_isDue_16 : decode cX5_isDue 16 = .ok (.iconst 1, 1) := by decide +kernel
theorem dX5_isDue_17 : decode cX5_isDue 17 = .ok (.goto 4, 3) := by decide +kernel
theorem dX5_isDue_20 : decode cX5_isDue 20 = .ok (.iconst 0, 1) := by decide +kernel
theorem dX5_isDue_21 : decode cX5_isDue 21 = .ok (.ireturn, 1) := by decide +kernel
theorem dX5_standing_0 : decode cX5_standing 0 = .ok (.aload_n 0, 1) := by decide +kernel
theorem dX5_standing_1 : decode cX5_standing 1 = .ok (.getfield 37, 3) := by decide +kernel
theorem dX5_standing_4 : decode cX5_standing 4 = .ok (.lookupswitch 70 #[(0, 44), (1, 46), (10, 48), (12, 50)], 44) := by decide +kernel
theorem dX5_standing_48 : decode cX5_standing 48 = .ok (.iconst (-1), 1) := by decide +kernel
theorem dX5_standing_49 : decode cX5_standing 49 = .ok (.ireturn, 1) := by decide +kernel
theorem dX5_standing_50 : decode cX5_standing 50 = .ok (.iconst 4, 1) := by decide +kernel
theorem dX5_standing_51 : decode cX5_standing 51 = .ok (.ireturn, 1) := by decide +kernel
theorem dX5_standing_52 : decode cX5_standing 52 = .ok (.iconst 1, 1) := by decide +kernel
theorem dX5_standing_53 : decode cX5_standing 53 = .ok (.ireturn, 1) := by decide +kernel
theorem dX5_standing_54 : decode cX5_standing 54 = .ok (.aload_n 0, 1) := by decide +kernel
theorem dX5_standing_55 : decode cX5_standing 55 = .ok (.getfield 12, 3) := by decide +kernel
theorem dX5_standing_58 : decode cX5_standing 58 = .ok (.getfield 115, 3) := by decide +kernel
theorem dX5_standing_61 : decode cX5_standing 61 = .ok (.iconst 3, 1) := by decide +kernel
theorem dX5_standing_62 : decode cX5_standing 62 = .ok (.if_icmp .ne 7, 3) := by decide +kernel
theorem dX5_standing_65 : decode cX5_standing 65 = .ok (.iconst 2, 1) := by decide +kernel
theorem dX5_standing_66 : decode cX5_standing 66 = .ok (.goto 7, 3) := by decide +kernel
theorem dX5_standing_69 : decode cX5_standing 69 = .ok (.aload_n 0, 1) := by decide +kernel
theorem dX5_standing_70 : decode cX5_standing 70 = .ok (.getfield 84, 3) := by decide +kernel
theorem dX5_standing_73 : decode cX5_standing 73 = .ok (.ireturn, 1) := by decide +kernel
theorem dX5_standing_74 : decode cX5_standing 74 = .ok (.iconst 0, 1) := by decide +kernel
theorem dX5_standing_75 : decode cX5_standing 75 = .ok (.ireturn, 1) := by decide +kernel
theorem dX5_currentGuard_0 : decode cX5_currentGuard 0 = .ok (.aload_n 0, 1) := by decide +kernel
theorem dX5_currentGuard_1 : decode cX5_currentGuard 1 = .ok (.getfield 112, 3) := by decide +kernel
theorem dX5_currentGuard_4 : decode cX5_currentGuard 4 = .ok (.ifCond .lt 38, 3) := by decide +kernel
theorem dX5_currentGuard_7 : decode cX5_currentGuard 7 = .ok (.aload_n 0, 1) := by decide +kernel
theorem dX5_currentGuard_8 : decode cX5_currentGuard 8 = .ok (.getfield 112, 3) := by decide +kernel
theorem dX5_currentGuard_11 : decode cX5_currentGuard 11 = .ok (.aload_n 0, 1) := by decide +kernel
theorem dX5_currentGuard_12 : decode cX5_currentGuard 12 = .ok (.getfield 48, 3) := by decide +kernel
theorem dX5_currentGuard_15 : decode cX5_currentGuard 15 = .ok (.if_icmp .ge 27, 3) := by decide +kernel
theorem dX5_currentGuard_18 : decode cX5_currentGuard 18 = .ok (.aload_n 0, 1) := by decide +kernel
theorem dX5_currentGuard_19 : decode cX5_currentGuard 19 = .ok (.getfield 112, 3) := by decide +kernel
theorem dX5_currentGuard_22 : decode cX5_currentGuard 22 = .ok (.aload_n 0, 1) := by decide +kernel
theorem dX5_currentGuard_23 : decode cX5_currentGuard 23 = .ok (.getfield 27, 3) := by decide +kernel
theorem dX5_currentGuard_26 : decode cX5_currentGuard 26 = .ok (.arraylength, 1) := by decide +kernel
theorem dX5_currentGuard_27 : decode cX5_currentGuard 27 = .ok (.if_icmp .ge 15, 3) := by decide +kernel
theorem dX5_currentGuard_30 : decode cX5_currentGuard 30 = .ok (.aload_n 0, 1) := by decide +kernel
theorem dX5_currentGuard_31 : decode cX5_currentGuard 31 = .ok (.getfield 27, 3) := by decide +kernel
theorem dX5_currentGuard_34 : decode cX5_currentGuard 34 = .ok (.aload_n 0, 1) := by decide +kernel
theorem dX5_currentGuard_35 : decode cX5_currentGuard 35 = .ok (.getfield 112, 3) := by decide +kernel
theorem dX5_currentGuard_38 : decode cX5_currentGuard 38 = .ok (.aaload, 1) := by decide +kernel
theorem dX5_currentGuard_39 : decode cX5_currentGuard 39 = .ok (.goto 4, 3) := by decide +kernel
theorem dX5_currentGuard_42 : decode cX5_currentGuard 42 = .ok (.aconst_null, 1) := by decide +kernel
theorem dX5_currentGuard_43 : decode cX5_currentGuard 43 = .ok (.areturn, 1) := by decide +kernel
theorem dX5_nextOn_0 : decode cX5_nextOn 0 = .ok (.iload_n 1, 1) := by decide +kernel
theorem dX5_nextOn_1 : decode cX5_nextOn 1 = .ok (.iconst 0, 1) := by decide +kernel
theorem dX5_nextOn_2 : decode cX5_nextOn 2 = .ok (.invokestatic 106, 3) := by decide +kernel
theorem dX5_nextOn_5 : decode cX5_nextOn 5 = .ok (.istore_n 2, 1) := by decide +kernel
theorem dX5_nextOn_6 : decode cX5_nextOn 6 = .ok (.iload_n 2, 1) := by decide +kernel
theorem dX5_nextOn_7 : decode cX5_nextOn 7 = .ok (.aload_n 0, 1) := by decide +kernel
theorem dX5_nextOn_8 : decode cX5_nextOn 8 = .ok (.getfield 48, 3) := by decide +kernel
theorem dX5_nextOn_11 : decode cX5_nextOn 11 = .ok (.if_icmp .ge 32, 3) := by decide +kernel
theorem dX5_nextOn_14 : decode cX5_nextOn 14 = .ok (.iload_n 2, 1) := by decide +kernel
theorem dX5_nextOn_15 : decode cX5_nextOn 15 = .ok (.aload_n 0, 1) := by decide +kernel
theorem dX5_nextOn_16 : decode cX5_nextOn 16 = .ok (.getfield 27, 3) := by decide +kernel
theorem dX5_nextOn_19 : decode cX5_nextOn 19 = .ok (.arraylength, 1) := by decide +kernel
theorem dX5_nextOn_20 : decode cX5_nextOn 20 = .ok (.if_icmp .ge 23, 3) := by decide +kernel
theorem dX5_nextOn_23 : decode cX5_nextOn 23 = .ok (.aload_n 0, 1) := by decide +kernel
theorem dX5_nextOn_24 : decode cX5_nextOn 24 = .ok (.getfield 27, 3) := by decide +kernel
theorem dX5_nextOn_27 : decode cX5_nextOn 27 = .ok (.iload_n 2, 1) := by decide +kernel
theorem dX5_nextOn_28 : decode cX5_nextOn 28 = .ok (.aaload, 1) := by decide +kernel
theorem dX5_nextOn_29 : decode cX5_nextOn 29 = .ok (.getfield 63, 3) := by decide +kernel
theorem dX5_nextOn_32 : decode cX5_nextOn 32 = .ok (.ifCond .eq 5, 3) := by decide +kernel
theorem dX5_nextOn_35 : decode cX5_nextOn 35 = .ok (.iload_n 2, 1) := by decide +kernel
theorem dX5_nextOn_36 : decode cX5_nextOn 36 = .ok (.ireturn, 1) := by decide +kernel
theorem dX5_nextOn_37 : decode cX5_nextOn 37 = .ok (.iinc 2 1, 3) := by decide +kernel
theorem dX5_nextOn_40 : decode cX5_nextOn 40 = .ok (.goto (-34), 3) := by decide +kernel
theorem dX5_nextOn_43 : decode cX5_nextOn 43 = .ok (.iconst (-1), 1) := by decide +kernel
theorem dX5_nextOn_44 : decode cX5_nextOn 44 = .ok (.ireturn, 1) := by decide +kernel
theorem dX5_lookFromFirst_0 : decode cX5_lookFromFirst 0 = .ok (.aload_n 0, 1) := by decide +kernel
theorem dX5_lookFromFirst_1 : decode cX5_lookFromFirst 1 = .ok (.iconst 0, 1) := by decide +kernel
theorem dX5_lookFromFirst_2 : decode cX5_lookFromFirst 2 = .ok (.invokevirtual 102, 3) := by decide +kernel
theorem dX5_lookFromFirst_5 : decode cX5_lookFromFirst 5 = .ok (.istore_n 1, 1) := by decide +kernel
theorem dX5_lookFromFirst_6 : decode cX5_lookFromFirst 6 = .ok (.iload_n 1, 1) := by decide +kernel
theorem dX5_lookFromFirst_7 : decode cX5_lookFromFirst 7 = .ok (.iconst (-1), 1) := by decide +kernel
theorem dX5_lookFromFirst_8 : decode cX5_lookFromFirst 8 = .ok (.if_icmp .ne 10, 3) := by decide +kernel
theorem dX5_lookFromFirst_11 : decode cX5_lookFromFirst 11 = .ok (.aload_n 0, 1) := by decide +kernel
theorem dX5_lookFromFirst_12 : decode cX5_lookFromFirst 12 = .ok (.bipush 10, 2) := by decide +kernel
theorem dX5_lookFromFirst_14 : decode cX5_lookFromFirst 14 = .ok (.putfield 37, 3) := by decide +kernel
theorem dX5_lookFromFirst_17 : decode cX5_lookFromFirst 17 = .ok (.return_, 1) := by decide +kernel
theorem dX5_lookFromFirst_18 : decode cX5_lookFromFirst 18 = .ok (.aload_n 0, 1) := by decide +kernel
theorem dX5_lookFromFirst_19 : decode cX5_lookFromFirst 19 = .ok (.iload_n 1, 1) := by decide +kernel
theorem dX5_lookFromFirst_20 : decode cX5_lookFromFirst 20 = .ok (.invokevirtual 116, 3) := by decide +kernel
theorem dX5_lookFromFirst_23 : decode cX5_lookFromFirst 23 = .ok (.return_, 1) := by decide +kernel
theorem dX5_lookAtNext_0 : decode cX5_lookAtNext 0 = .ok (.aload_n 0, 1) := by decide +kernel
theorem dX5_lookAtNext_1 : decode cX5_lookAtNext 1 = .ok (.aload_n 0, 1) := by decide +kernel
theorem dX5_lookAtNext_2 : decode cX5_lookAtNext 2 = .ok (.getfield 112, 3) := by decide +kernel
theorem dX5_lookAtNext_5 : decode cX5_lookAtNext 5 = .ok (.iconst 1, 1) := by decide +kernel
theorem dX5_lookAtNext_6 : decode cX5_lookAtNext 6 = .ok (.iadd, 1) := by decide +kernel
theorem dX5_lookAtNext_7 : decode cX5_lookAtNext 7 = .ok (.invokevirtual 102, 3) := by decide +kernel
theorem dX5_lookAtNext_10 : decode cX5_lookAtNext 10 = .ok (.istore_n 1, 1) := by decide +kernel
theorem dX5_lookAtNext_11 : decode cX5_lookAtNext 11 = .ok (.iload_n 1, 1) := by decide +kernel
theorem dX5_lookAtNext_12 : decode cX5_lookAtNext 12 = .ok (.iconst (-1), 1) := by decide +kernel
theorem dX5_lookAtNext_13 : decode cX5_lookAtNext 13 = .ok (.if_icmp .ne 10, 3) := by decide +kernel
theorem dX5_lookAtNext_16 : decode cX5_lookAtNext 16 = .ok (.aload_n 0, 1) := by decide +kernel
theorem dX5_lookAtNext_17 : decode cX5_lookAtNext 17 = .ok (.bipush 9, 2) := by decide +kernel
theorem dX5_lookAtNext_19 : decode cX5_lookAtNext 19 = .ok (.putfield 37, 3) := by decide +kernel
theorem dX5_lookAtNext_22 : decode cX5_lookAtNext 22 = .ok (.return_, 1) := by decide +kernel
theorem dX5_lookAtNext_23 : decode cX5_lookAtNext 23 = .ok (.aload_n 0, 1) := by decide +kernel
theorem dX5_lookAtNext_24 : decode cX5_lookAtNext 24 = .ok (.iload_n 1, 1) := by decide +kernel
theorem dX5_lookAtNext_25 : decode cX5_lookAtNext 25 = .ok (.invokevirtual 116, 3) := by decide +kernel
theorem dX5_lookAtNext_28 : decode cX5_lookAtNext 28 = .ok (.return_, 1) := by decide +kernel
theorem dX5_lookAt_0 : decode cX5_lookAt 0 = .ok (.aload_n 0, 1) := by decide +kernel
theorem dX5_lookAt_1 : decode cX5_lookAt 1 = .ok (.iload_n 1, 1) := by decide +kernel
theorem dX5_lookAt_2 : decode cX5_lookAt 2 = .ok (.putfield 112, 3) := by decide +kernel
theorem dX5_lookAt_5 : decode cX5_lookAt 5 = .ok (.aload_n 0, 1) := by decide +kernel
theorem dX5_lookAt_6 : decode cX5_lookAt 6 = .ok (.iconst 0, 1) := by decide +kernel
theorem dX5_lookAt_7 : decode cX5_lookAt 7 = .ok (.putfield 119, 3) := by decide +kernel
theorem dX5_lookAt_10 : decode cX5_lookAt 10 = .ok (.aload_n 0, 1) := by decide +kernel
theorem dX5_lookAt_11 : decode cX5_lookAt 11 = .ok (.iconst 3, 1) := by decide +kernel
theorem dX5_lookAt_12 : decode cX5_lookAt 12 = .ok (.putfield 37, 3) := by decide +kernel
theorem dX5_lookAt_15 : decode cX5_lookAt 15 = .ok (.return_, 1) := by decide +kernel
theorem dX5_endLooking_0 : decode cX5_endLooking 0 = .ok (.aload_n 0, 1) := by decide +kernel
theorem dX5_endLooking_1 : decode cX5_endLooking 1 = .ok (.getfield 12, 3) := by decide +kernel
theorem dX5_endLooking_4 : decode cX5_endLooking 4 = .ok (.invokevirtual 122, 3) := by decide +kernel
theorem dX5_endLooking_7 : decode cX5_endLooking 7 = .ok (.ifCond .eq 10, 3) := by decide +kernel
theorem dX5_endLooking_10 : decode cX5_endLooking 10 = .ok (.aload_n 0, 1) := by decide +kernel
theorem dX5_endLooking_11 : decode cX5_endLooking 11 = .ok (.invokevirtual 126, 3) := by decide +kernel
theorem dX5_endLooking_14 : decode cX5_endLooking 14 = .ok (.goto 28, 3) := by decide +kernel
theorem dX5_endLooking_17 : decode cX5_endLooking 17 = .ok (.aload_n 0, 1) := by decide +kernel
theorem dX5_endLooking_18 : decode cX5_endLooking 18 = .ok (.getfield 74, 3) := by decide +kernel
theorem dX5_endLooking_21 : decode cX5_endLooking 21 = .ok (.ifCond .eq 15, 3) := by decide +kernel
theorem dX5_endLooking_24 : decode cX5_endLooking 24 = .ok (.aload_n 0, 1) := by decide +kernel
theorem dX5_endLooking_25 : decode cX5_endLooking 25 = .ok (.iconst 0, 1) := by decide +kernel
theorem dX5_endLooking_26 : decode cX5_endLooking 26 = .ok (.putfield 74, 3) := by decide +kernel
theorem dX5_endLooking_29 : decode cX5_endLooking 29 = .ok (.aload_n 0, 1) := by decide +kernel
theorem dX5_endLooking_30 : decode cX5_endLooking 30 = .ok (.invokevirtual 129, 3) := by decide +kernel
theorem dX5_endLooking_33 : decode cX5_endLooking 33 = .ok (.goto 9, 3) := by decide +kernel
theorem dX5_endLooking_36 : decode cX5_endLooking 36 = .ok (.aload_n 0, 1) := by decide +kernel
theorem dX5_endLooking_37 : decode cX5_endLooking 37 = .ok (.bipush 10, 2) := by decide +kernel
theorem dX5_endLooking_39 : decode cX5_endLooking 39 = .ok (.putfield 37, 3) := by decide +kernel
theorem dX5_endLooking_42 : decode cX5_endLooking 42 = .ok (.return_, 1) := by decide +kernel
theorem dX5_wakeIfSettled_0 : decode cX5_wakeIfSettled 0 = .ok (.aload_n 0, 1) := by decide +kernel
theorem dX5_wakeIfSettled_1 : decode cX5_wakeIfSettled 1 = .ok (.getfield 12, 3) := by decide +kernel
theorem dX5_wakeIfSettled_4 : decode cX5_wakeIfSettled 4 = .ok (.invokevirtual 122, 3) := by decide +kernel
theorem dX5_wakeIfSettled_7 : decode cX5_wakeIfSettled 7 = .ok (.ifCond .eq 7, 3) := by decide +kernel
theorem dX5_wakeIfSettled_10 : decode cX5_wakeIfSettled 10 = .ok (.aload_n 0, 1) := by decide +kernel
theorem dX5_wakeIfSettled_11 : decode cX5_wakeIfSettled 11 = .ok (.invokevirtual 126, 3) := by decide +kernel
theorem dX5_wakeIfSettled_14 : decode cX5_wakeIfSettled 14 = .ok (.return_, 1) := by decide +kernel
theorem dX5_keepEntry_0 : decode cX5_keepEntry 0 = .ok (.aload_n 0, 1) := by decide +kernel
theorem dX5_keepEntry_1 : decode cX5_keepEntry 1 = .ok (.getfield 87, 3) := by decide +kernel
theorem dX5_keepEntry_4 : decode cX5_keepEntry 4 = .ok (.aload_n 0, 1) := by decide +kernel
theorem dX5_keepEntry_5 : decode cX5_keepEntry 5 = .ok (.getfield 33, 3) := by decide +kernel
theorem dX5_keepEntry_8 : decode cX5_keepEntry 8 = .ok (.arraylength, 1) := by decide +kernel
theorem dX5_keepEntry_9 : decode cX5_keepEntry 9 = .ok (.if_icmp .ge 23, 3) := by decide +kernel
theorem dX5_keepEntry_12 : decode cX5_keepEntry 12 = .ok (.aload_n 0, 1) := by decide +kernel
theorem dX5_keepEntry_13 : decode cX5_keepEntry 13 = .ok (.getfield 33, 3) := by decide +kernel
theorem dX5_keepEntry_16 : decode cX5_keepEntry 16 = .ok (.aload_n 0, 1) := by decide +kernel
theorem dX5_keepEntry_17 : decode cX5_keepEntry 17 = .ok (.getfield 87, 3) := by decide +kernel
theorem dX5_keepEntry_20 : decode cX5_keepEntry 20 = .ok (.aload_n 1, 1) := by decide +kernel
theorem dX5_keepEntry_21 : decode cX5_keepEntry 21 = .ok (.aastore, 1) := by decide +kernel
theorem dX5_keepEntry_22 : decode cX5_keepEntry 22 = .ok (.aload_n 0, 1) := by decide +kernel
theorem dX5_keepEntry_23 : decode cX5_keepEntry 23 = .ok (.dup, 1) := by decide +kernel
theorem dX5_keepEntry_24 : decode cX5_keepEntry 24 = .ok (.getfield 87, 3) := by decide +kernel
theorem dX5_keepEntry_27 : decode cX5_keepEntry 27 = .ok (.iconst 1, 1) := by decide +kernel
theorem dX5_keepEntry_28 : decode cX5_keepEntry 28 = .ok (.iadd, 1) := by decide +kernel
theorem dX5_keepEntry_29 : decode cX5_keepEntry 29 = .ok (.putfield 87, 3) := by decide +kernel
theorem dX5_keepEntry_32 : decode cX5_keepEntry 32 = .ok (.return_, 1) := by decide +kernel
theorem dX5_firstEntry_0 : decode cX5_firstEntry 0 = .ok (.aload_n 0, 1) := by decide +kernel
theorem dX5_firstEntry_1 : decode cX5_firstEntry 1 = .ok (.getfield 90, 3) := by decide +kernel
theorem dX5_firstEntry_4 : decode cX5_firstEntry 4 = .ok (.ifCond .lt 38, 3) := by decide +kernel
theorem dX5_firstEntry_7 : decode cX5_firstEntry 7 = .ok (.aload_n 0, 1) := by decide +kernel
theorem dX5_firstEntry_8 : decode cX5_firstEntry 8 = .ok (.getfield 90, 3) := by decide +kernel
theorem dX5_firstEntry_11 : decode cX5_firstEntry 11 = .ok (.aload_n 0, 1) := by decide +kernel
theorem dX5_firstEntry_12 : decode cX5_firstEntry 12 = .ok (.getfield 87, 3) := by decide +kernel
theorem dX5_firstEntry_15 : decode cX5_firstEntry 15 = .ok (.if_icmp .ge 27, 3) := by decide +kernel
theorem dX5_firstEntry_18 : decode cX5_firstEntry 18 = .ok (.aload_n 0, 1) := by decide +kernel
theorem dX5_firstEntry_19 : decode cX5_firstEntry 19 = .ok (.getfield 90, 3) := by decide +kernel
theorem dX5_firstEntry_22 : decode cX5_firstEntry 22 = .ok (.aload_n 0, 1) := by decide +kernel
theorem dX5_firstEntry_23 : decode cX5_firstEntry 23 = .ok (.getfield 33, 3) := by decide +kernel
theorem dX5_firstEntry_26 : decode cX5_firstEntry 26 = .ok (.arraylength, 1) := by decide +kernel
theorem dX5_firstEntry_27 : decode cX5_firstEntry 27 = .ok (.if_icmp .ge 15, 3) := by decide +kernel
theorem dX5_firstEntry_30 : decode cX5_firstEntry 30 = .ok (.aload_n 0, 1) := by decide +kernel
theorem dX5_firstEntry_31 : decode cX5_firstEntry 31 = .ok (.getfield 33, 3) := by decide +kernel
theorem dX5_firstEntry_34 : decode cX5_firstEntry 34 = .ok (.aload_n 0, 1) := by decide +kernel
theorem dX5_firstEntry_35 : decode cX5_firstEntry 35 = .ok (.getfield 90, 3) := by decide +kernel
theorem dX5_firstEntry_38 : decode cX5_firstEntry 38 = .ok (.aaload, 1) := by decide +kernel
theorem dX5_firstEntry_39 : decode cX5_firstEntry 39 = .ok (.goto 4, 3) := by decide +kernel
theorem dX5_firstEntry_42 : decode cX5_firstEntry 42 = .ok (.aconst_null, 1) := by decide +kernel
theorem dX5_firstEntry_43 : decode cX5_firstEntry 43 = .ok (.areturn, 1) := by decide +kernel
theorem dX5_beginWithdraw_0 : decode cX5_beginWithdraw 0 = .ok (.aload_n 0, 1) := by decide +kernel
theorem dX5_beginWithdraw_1 : decode cX5_beginWithdraw 1 = .ok (.aload_n 0, 1) := by decide +kernel
theorem dX5_beginWithdraw_2 : decode cX5_beginWithdraw 2 = .ok (.invokevirtual 132, 3) := by decide +kernel
theorem dX5_beginWithdraw_5 : decode cX5_beginWithdraw 5 = .ok (.ifnonnull 8, 3) := by decide +kernel
theorem dX5_beginWithdraw_8 : decode cX5_beginWithdraw 8 = .ok (.bipush 12, 2) := by decide +kernel
theorem dX5_beginWithdraw_10 : decode cX5_beginWithdraw 10 = .ok (.goto 5, 3) := by decide +kernel
theorem dX5_beginWithdraw_13 : decode cX5_beginWithdraw 13 = .ok (.bipush 11, 2) := by decide +kernel
theorem dX5_beginWithdraw_15 : decode cX5_beginWithdraw 15 = .ok (.putfield 37, 3) := by decide +kernel
theorem dX5_beginWithdraw_18 : decode cX5_beginWithdraw 18 = .ok (.return_, 1) := by decide +kernel
theorem dX5_matches_0 : decode cX5_matches 0 = .ok (.iconst 0, 1) := by decide +kernel
theorem dX5_matches_1 : decode cX5_matches 1 = .ok (.istore_n 2, 1) := by decide +kernel
theorem dX5_matches_2 : decode cX5_matches 2 = .ok (.iload_n 2, 1) := by decide +kernel
theorem dX5_matches_3 : decode cX5_matches 3 = .ok (.aload_n 0, 1) := by decide +kernel
theorem dX5_matches_4 : decode cX5_matches 4 = .ok (.getfield 48, 3) := by decide +kernel
theorem dX5_matches_7 : decode cX5_matches 7 = .ok (.if_icmp .ge 63, 3) := by decide +kernel
theorem dX5_matches_10 : decode cX5_matches 10 = .ok (.iload_n 2, 1) := by decide +kernel
theorem dX5_matches_11 : decode cX5_matches 11 = .ok (.aload_n 0, 1) := by decide +kernel
theorem dX5_matches_12 : decode cX5_matches 12 = .ok (.getfield 27, 3) := by decide +kernel
theorem dX5_matches_15 : decode cX5_matches 15 = .ok (.arraylength, 1) := by decide +kernel
theorem dX5_matches_16 : decode cX5_matches 16 = .ok (.if_icmp .ge 54, 3) := by decide +kernel
theorem dX5_matches_19 : decode cX5_matches 19 = .ok (.iconst 0, 1) := by decide +kernel
theorem dX5_matches_20 : decode cX5_matches 20 = .ok (.istore_n 3, 1) := by decide +kernel
theorem dX5_matches_21 : decode cX5_matches 21 = .ok (.iload_n 3, 1) := by decide +kernel
theorem dX5_matches_22 : decode cX5_matches 22 = .ok (.aload_n 1, 1) := by decide +kernel
theorem dX5_matches_23 : decode cX5_matches 23 = .ok (.getfield 48, 3) := by decide +kernel
theorem dX5_matches_26 : decode cX5_matches 26 = .ok (.if_icmp .ge 38, 3) := by decide +kernel
theorem dX5_matches_29 : decode cX5_matches 29 = .ok (.iload_n 3, 1) := by decide +kernel
theorem dX5_matches_30 : decode cX5_matches 30 = .ok (.aload_n 1, 1) := by decide +kernel
theorem dX5_matches_31 : decode cX5_matches 31 = .ok (.getfield 27, 3) := by decide +kernel
theorem dX5_matches_34 : decode cX5_matches 34 = .ok (.arraylength, 1) := by decide +kernel
theorem dX5_matches_35 : decode cX5_matches 35 = .ok (.if_icmp .ge 29, 3) := by decide +kernel
theorem dX5_matches_38 : decode cX5_matches 38 = .ok (.aload_n 0, 1) := by decide +kernel
theorem dX5_matches_39 : decode cX5_matches 39 = .ok (.getfield 27, 3) := by decide +kernel
theorem dX5_matches_42 : decode cX5_matches 42 = .ok (.iload_n 2, 1) := by decide +kernel
theorem dX5_matches_43 : decode cX5_matches 43 = .ok (.aaload, 1) := by decide +kernel
theorem dX5_matches_44 : decode cX5_matches 44 = .ok (.aload_n 1, 1) := by decide +kernel
theorem dX5_matches_45 : decode cX5_matches 45 = .ok (.getfield 27, 3) := by decide +kernel
theorem dX5_matches_48 : decode cX5_matches 48 = .ok (.iload_n 3, 1) := by decide +kernel
theorem dX5_matches_49 : decode cX5_matches 49 = .ok (.aaload, 1) := by decide +kernel
theorem dX5_matches_50 : decode cX5_matches 50 = .ok (.invokevirtual 136, 3) := by decide +kernel
theorem dX5_matches_53 : decode cX5_matches 53 = .ok (.ifCond .eq 5, 3) := by decide +kernel
theorem dX5_matches_56 : decode cX5_matches 56 = .ok (.iconst 1, 1) := by decide +kernel
theorem dX5_matches_57 : decode cX5_matches 57 = .ok (.ireturn, 1) := by decide +kernel
theorem dX5_matches_58 : decode cX5_matches 58 = .ok (.iinc 3 1, 3) := by decide +kernel
theorem dX5_matches_61 : decode cX5_matches 61 = .ok (.goto (-40), 3) := by decide +kernel
theorem dX5_matches_64 : decode cX5_matches 64 = .ok (.iinc 2 1, 3) := by decide +kernel
theorem dX5_matches_67 : decode cX5_matches 67 = .ok (.goto (-65), 3) := by decide +kernel
theorem dX5_matches_70 : decode cX5_matches 70 = .ok (.iconst 0, 1) := by decide +kernel
theorem dX5_matches_71 : decode cX5_matches 71 = .ok (.ireturn, 1) := by decide +kernel
theorem dX6_init_0 : decode cX6_init 0 = .ok (.aload_n 0, 1) := by decide +kernel
theorem dX6_init_1 : decode cX6_init 1 = .ok (.invokespecial 3, 3) := by decide +kernel
theorem dX6_init_4 : decode cX6_init 4 = .ok (.aload_n 0, 1) := by decide +kernel
theorem dX6_init_5 : decode cX6_init 5 = .ok (.iconst 0, 1) := by decide +kernel
theorem dX6_init_6 : decode cX6_init 6 = .ok (.putfield 9, 3) := by decide +kernel
theorem dX6_init_9 : decode cX6_init 9 = .ok (.aload_n 0, 1) := by decide +kernel
theorem dX6_init_10 : decode cX6_init 10 = .ok (.iconst (-1), 1) := by decide +kernel
theorem dX6_init_11 : decode cX6_init 11 = .ok (.putfield 15, 3) := by decide +kernel
theorem dX6_init_14 : decode cX6_init 14 = .ok (.return_, 1) := by decide +kernel
theorem dX6_become_0 : decode cX6_become 0 = .ok (.aload_n 0, 1) := by decide +kernel
theorem dX6_become_1 : decode cX6_become 1 = .ok (.iload_n 1, 1) := by decide +kernel
theorem dX6_become_2 : decode cX6_become 2 = .ok (.putfield 9, 3) := by decide +kernel
theorem dX6_become_5 : decode cX6_become 5 = .ok (.aload_n 0, 1) := by decide +kernel
theorem dX6_become_6 : decode cX6_become 6 = .ok (.iconst (-1), 1) := by decide +kernel
theorem dX6_become_7 : decode cX6_become 7 = .ok (.putfield 15, 3) := by decide +kernel
theorem dX6_become_10 : decode cX6_become 10 = .ok (.return_, 1) := by decide +kernel
theorem dX6_claimFor_0 : decode cX6_claimFor 0 = .ok (.aload_n 0, 1) := by decide +kernel
theorem dX6_claimFor_1 : decode cX6_claimFor 1 = .ok (.iconst 2, 1) := by decide +kernel
theorem dX6_claimFor_2 : decode cX6_claimFor 2 = .ok (.putfield 9, 3) := by decide +kernel
theorem dX6_claimFor_5 : decode cX6_claimFor 5 = .ok (.aload_n 0, 1) := by decide +kernel
theorem dX6_claimFor_6 : decode cX6_claimFor 6 = .ok (.iload_n 1, 1) := by decide +kernel
theorem dX6_claimFor_7 : decode cX6_claimFor 7 = .ok (.putfield 15, 3) := by decide +kernel
theorem dX6_claimFor_10 : decode cX6_claimFor 10 = .ok (.return_, 1) := by decide +kernel
theorem dX6_isAt_0 : decode cX6_isAt 0 = .ok (.aload_n 0, 1) := by decide +kernel
theorem dX6_isAt_1 : decode cX6_isAt 1 = .ok (.getfield 9, 3) := by decide +kernel
theorem dX6_isAt_4 : decode cX6_isAt 4 = .ok (.iload_n 1, 1) := by decide +kernel
theorem dX6_isAt_5 : decode cX6_isAt 5 = .ok (.if_icmp .ne 15, 3) := by decide +kernel
theorem dX6_isAt_8 : decode cX6_isAt 8 = .ok (.aload_n 0, 1) := by decide +kernel
theorem dX6_isAt_9 : decode cX6_isAt 9 = .ok (.getfield 18, 3) := by decide +kernel
theorem dX6_isAt_12 : decode cX6_isAt 12 = .ok (.iload_n 2, 1) := by decide +kernel
theorem dX6_isAt_13 : decode cX6_isAt 13 = .ok (.if_icmp .ne 7, 3) := by decide +kernel
theorem dX6_isAt_16 : decode cX6_isAt 16 = .ok (.iconst 1, 1) := by decide +kernel
theorem dX6_isAt_17 : decode cX6_isAt 17 = .ok (.goto 4, 3) := by decide +kernel
theorem dX6_isAt_20 : decode cX6_isAt 20 = .ok (.iconst 0, 1) := by decide +kernel
theorem dX6_isAt_21 : decode cX6_isAt 21 = .ok (.ireturn, 1) := by decide +kernel
theorem dX6_isSettled_0 : decode cX6_isSettled 0 = .ok (.aload_n 0, 1) := by decide +kernel
theorem dX6_isSettled_1 : decode cX6_isSettled 1 = .ok (.getfield 9, 3) := by decide +kernel
theorem dX6_isSettled_4 : decode cX6_isSettled 4 = .ok (.iconst 3, 1) := by decide +kernel
theorem dX6_isSettled_5 : decode cX6_isSettled 5 = .ok (.if_icmp .eq 11, 3) := by decide +kernel
theorem dX6_isSettled_8 : decode cX6_isSettled 8 = .ok (.aload_n 0, 1) := by decide +kernel
theorem dX6_isSettled_9 : decode cX6_isSettled 9 = .ok (.getfield 9, 3) := by decide +kernel
theorem dX6_isSettled_12 : decode cX6_isSettled 12 = .ok (.iconst 4, 1) := by decide +kernel
theorem dX6_isSettled_13 : decode cX6_isSettled 13 = .ok (.if_icmp .ne 7, 3) := by decide +kernel
theorem dX6_isSettled_16 : decode cX6_isSettled 16 = .ok (.iconst 1, 1) := by decide +kernel
theorem dX6_isSettled_17 : decode cX6_isSettled 17 = .ok (.goto 4, 3) := by decide +kernel
theorem dX6_isSettled_20 : decode cX6_isSettled 20 = .ok (.iconst 0, 1) := by decide +kernel
theorem dX6_isSettled_21 : decode cX6_isSettled 21 = .ok (.ireturn, 1) := by decide +kernel
theorem dX6_part_0 : decode cX6_part 0 = .ok (.iload_n 1, 1) := by decide +kernel
theorem dX6_part_1 : decode cX6_part 1 = .ok (.tableswitch 42 0 2 #[27, 32, 37], 27) := by decide +kernel
theorem dX6_part_28 : decode cX6_part 28 = .ok (.aload_n 0, 1) := by decide +kernel
theorem dX6_part_29 : decode cX6_part 29 = .ok (.getfield 9, 3) := by decide +kernel
theorem dX6_part_32 : decode cX6_part 32 = .ok (.ireturn, 1) := by decide +kernel
theorem dX6_part_33 : decode cX6_part 33 = .ok (.aload_n 0, 1) := by decide +kernel
theorem dX6_part_34 : decode cX6_part 34 = .ok (.getfield 18, 3) := by decide +kernel
theorem dX6_part_37 : decode cX6_part 37 = .ok (.ireturn, 1) := by decide +kernel
theorem dX6_part_38 : decode cX6_part 38 = .ok (.aload_n 0, 1) := by decide +kernel
theorem dX6_part_39 : decode cX6_part 39 = .ok (.getfield 15, 3) := by decide +kernel
theorem dX6_part_42 : decode cX6_part 42 = .ok (.ireturn, 1) := by decide +kernel
theorem dX6_part_43 : decode cX6_part 43 = .ok (.iconst (-1), 1) := by decide +kernel
theorem dX6_part_44 : decode cX6_part 44 = .ok (.ireturn, 1) := by decide +kernel
theorem dX7_init_0 : decode cX7_init 0 = .ok (.aload_n 0, 1) := by decide +kernel
theorem dX7_init_1 : decode cX7_init 1 = .ok (.invokespecial 3, 3) := by decide +kernel
theorem dX7_init_4 : decode cX7_init 4 = .ok (.iconst 2, 1) := by decide +kernel
theorem dX7_init_5 : decode cX7_init 5 = .ok (.bipush 16, 2) := by decide +kernel
theorem dX7_init_7 : decode cX7_init 7 = .ok (.iload_n 1, 1) := by decide +kernel
theorem dX7_init_8 : decode cX7_init 8 = .ok (.invokestatic 9, 3) := by decide +kernel
theorem dX7_init_11 : decode cX7_init 11 = .ok (.invokestatic 15, 3) := by decide +kernel
theorem dX7_init_14 : decode cX7_init 14 = .ok (.istore_n 2, 1) := by decide +kernel
theorem dX7_init_15 : decode cX7_init 15 = .ok (.aload_n 0, 1) := by decide +kernel
theorem dX7_init_16 : decode cX7_init 16 = .ok (.iload_n 2, 1) := by decide +kernel
theorem dX7_init_17 : decode cX7_init 17 = .ok (.anewarray 18, 3) := by decide +kernel
theorem dX7_init_20 : decode cX7_init 20 = .ok (.putfield 20, 3) := by decide +kernel
theorem dX7_init_23 : decode cX7_init 23 = .ok (.iconst 0, 1) := by decide +kernel
theorem dX7_init_24 : decode cX7_init 24 = .ok (.istore_n 3, 1) := by decide +kernel
theorem dX7_init_25 : decode cX7_init 25 = .ok (.iload_n 3, 1) := by decide +kernel
theorem dX7_init_26 : decode cX7_init 26 = .ok (.iload_n 2, 1) := by decide +kernel
theorem dX7_init_27 : decode cX7_init 27 = .ok (.if_icmp .ge 23, 3) := by decide +kernel
theorem dX7_init_30 : decode cX7_init 30 = .ok (.aload_n 0, 1) := by decide +kernel
theorem dX7_init_31 : decode cX7_init 31 = .ok (.getfield 20, 3) := by decide +kernel
theorem dX7_init_34 : decode cX7_init 34 = .ok (.iload_n 3, 1) := by decide +kernel
theorem dX7_init_35 : decode cX7_init 35 = .ok (.new 18, 3) := by decide +kernel
theorem dX7_init_38 : decode cX7_init 38 = .ok (.dup, 1) := by decide +kernel
theorem dX7_init_39 : decode cX7_init 39 = .ok (.iload_n 3, 1) := by decide +kernel
theorem dX7_init_40 : decode cX7_init 40 = .ok (.invokespecial 24, 3) := by decide +kernel
theorem dX7_init_43 : decode cX7_init 43 = .ok (.aastore, 1) := by decide +kernel
theorem dX7_init_44 : decode cX7_init 44 = .ok (.iinc 3 1, 3) := by decide +kernel
theorem dX7_init_47 : decode cX7_init 47 = .ok (.goto (-22), 3) := by decide +kernel
theorem dX7_init_50 : decode cX7_init 50 = .ok (.aload_n 0, 1) := by decide +kernel
theorem dX7_init_51 : decode cX7_init 51 = .ok (.bipush 8, 2) := by decide +kernel
theorem dX7_init_53 : decode cX7_init 53 = .ok (.anewarray 27, 3) := by decide +kernel
theorem dX7_init_56 : decode cX7_init 56 = .ok (.putfield 29, 3) := by decide +kernel
theorem dX7_init_59 : decode cX7_init 59 = .ok (.iconst 0, 1) := by decide +kernel
theorem dX7_init_60 : decode cX7_init 60 = .ok (.istore_n 3, 1) := by decide +kernel
theorem dX7_init_61 : decode cX7_init 61 = .ok (.iload_n 3, 1) := by decide +kernel
theorem dX7_init_62 : decode cX7_init 62 = .ok (.bipush 8, 2) := by decide +kernel
theorem dX7_init_64 : decode cX7_init 64 = .ok (.if_icmp .ge 22, 3) := by decide +kernel
theorem dX7_init_67 : decode cX7_init 67 = .ok (.aload_n 0, 1) := by decide +kernel
theorem dX7_init_68 : decode cX7_init 68 = .ok (.getfield 29, 3) := by decide +kernel
theorem dX7_init_71 : decode cX7_init 71 = .ok (.iload_n 3, 1) := by decide +kernel
theorem dX7_init_72 : decode cX7_init 72 = .ok (.new 27, 3) := by decide +kernel
theorem dX7_init_75 : decode cX7_init 75 = .ok (.dup, 1) := by decide +kernel
theorem dX7_init_76 : decode cX7_init 76 = .ok (.invokespecial 33, 3) := by decide +kernel
theorem dX7_init_79 : decode cX7_init 79 = .ok (.aastore, 1) := by decide +kernel
theorem dX7_init_80 : decode cX7_init 80 = .ok (.iinc 3 1, 3) := by decide +kernel
theorem dX7_init_83 : decode cX7_init 83 = .ok (.goto (-22), 3) := by decide +kernel
theorem dX7_init_86 : decode cX7_init 86 = .ok (.aload_n 0, 1) := by decide +kernel
theorem dX7_init_87 : decode cX7_init 87 = .ok (.new 34, 3) := by decide +kernel
theorem dX7_init_90 : decode cX7_init 90 = .ok (.dup, 1) := by decide +kernel
theorem dX7_init_91 : decode cX7_init 91 = .ok (.invokespecial 36, 3) := by decide +kernel
theorem dX7_init_94 : decode cX7_init 94 = .ok (.putfield 37, 3) := by decide +kernel
theorem dX7_init_97 : decode cX7_init 97 = .ok (.return_, 1) := by decide +kernel
theorem dX7_spawn_0 : decode cX7_spawn 0 = .ok (.aload_n 0, 1) := by decide +kernel
theorem dX7_spawn_1 : decode cX7_spawn 1 = .ok (.iload_n 1, 1) := by decide +kernel
theorem dX7_spawn_2 : decode cX7_spawn 2 = .ok (.iconst 0, 1) := by decide +kernel
theorem dX7_spawn_3 : decode cX7_spawn 3 = .ok (.invokevirtual 41, 3) := by decide +kernel
theorem dX7_spawn_6 : decode cX7_spawn 6 = .ok (.astore_n 2, 1) := by decide +kernel
theorem dX7_spawn_7 : decode cX7_spawn 7 = .ok (.aload_n 2, 1) := by decide +kernel
theorem dX7_spawn_8 : decode cX7_spawn 8 = .ok (.ifnonnull 5, 3) := by decide +kernel
theorem dX7_spawn_11 : decode cX7_spawn 11 = .ok (.iconst 0, 1) := by decide +kernel
theorem dX7_spawn_12 : decode cX7_spawn 12 = .ok (.ireturn, 1) := by decide +kernel
theorem dX7_spawn_13 : decode cX7_spawn 13 = .ok (.aload_n 2, 1) := by decide +kernel
theorem dX7_spawn_14 : decode cX7_spawn 14 = .ok (.invokevirtual 45, 3) := by decide +kernel
theorem dX7_spawn_17 : decode cX7_spawn 17 = .ok (.iconst 1, 1) := by decide +kernel
theorem dX7_spawn_18 : decode cX7_spawn 18 = .ok (.ireturn, 1) := by decide +kernel
theorem dX7_quit_0 : decode cX7_quit 0 = .ok (.aload_n 0, 1) := by decide +kernel
theorem dX7_quit_1 : decode cX7_quit 1 = .ok (.iload_n 1, 1) := by decide +kernel
theorem dX7_quit_2 : decode cX7_quit 2 = .ok (.iconst 1, 1) := by decide +kernel
theorem dX7_quit_3 : decode cX7_quit 3 = .ok (.invokevirtual 41, 3) := by decide +kernel
theorem dX7_quit_6 : decode cX7_quit 6 = .ok (.astore_n 2, 1) := by decide +kernel
theorem dX7_quit_7 : decode cX7_quit 7 = .ok (.aload_n 2, 1) := by decide +kernel
theorem dX7_quit_8 : decode cX7_quit 8 = .ok (.ifnonnull 5, 3) := by decide +kernel
theorem dX7_quit_11 : decode cX7_quit 11 = .ok (.iconst 0, 1) := by decide +kernel
theorem dX7_quit_12 : decode cX7_quit 12 = .ok (.ireturn, 1) := by decide +kernel
theorem dX7_quit_13 : decode cX7_quit 13 = .ok (.aload_n 2, 1) := by decide +kernel
theorem dX7_quit_14 : decode cX7_quit 14 = .ok (.iconst 0, 1) := by decide +kernel
theorem dX7_quit_15 : decode cX7_quit 15 = .ok (.putfield 48, 3) := by decide +kernel
theorem dX7_quit_18 : decode cX7_quit 18 = .ok (.iconst 1, 1) := by decide +kernel
theorem dX7_quit_19 : decode cX7_quit 19 = .ok (.ireturn, 1) := by decide +kernel
theorem dX7_guard_0 : decode cX7_guard 0 = .ok (.aload_n 0, 1) := by decide +kernel
theorem dX7_guard_1 : decode cX7_guard 1 = .ok (.iload_n 1, 1) := by decide +kernel
theorem dX7_guard_2 : decode cX7_guard 2 = .ok (.iconst 1, 1) := by decide +kernel
theorem dX7_guard_3 : decode cX7_guard 3 = .ok (.invokevirtual 41, 3) := by decide +kernel
theorem dX7_guard_6 : decode cX7_guard 6 = .ok (.astore 6, 2) := by decide +kernel
theorem dX7_guard_8 : decode cX7_guard 8 = .ok (.aload 6, 2) := by decide +kernel
theorem dX7_guard_10 : decode cX7_guard 10 = .ok (.ifnull 20, 3) := by decide +kernel
theorem dX7_guard_13 : decode cX7_guard 13 = .ok (.iload_n 2, 1) := by decide +kernel
theorem dX7_guard_14 : decode cX7_guard 14 = .ok (.ifCond .eq 8, 3) := by decide +kernel
theorem dX7_guard_17 : decode cX7_guard 17 = .ok (.iload_n 2, 1) := by decide +kernel
theorem dX7_guard_18 : decode cX7_guard 18 = .ok (.iconst 1, 1) := by decide +kernel
theorem dX7_guard_19 : decode cX7_guard 19 = .ok (.if_icmp .ne 11, 3) := by decide +kernel
theorem dX7_guard_22 : decode cX7_guard 22 = .ok (.aload_n 0, 1) := by decide +kernel
theorem dX7_guard_23 : decode cX7_guard 23 = .ok (.iload_n 3, 1) := by decide +kernel
theorem dX7_guard_24 : decode cX7_guard 24 = .ok (.invokevirtual 52, 3) := by decide +kernel
theorem dX7_guard_27 : decode cX7_guard 27 = .ok (.ifnonnull 5, 3) := by decide +kernel
theorem dX7_guard_30 : decode cX7_guard 30 = .ok (.iconst 0, 1) := by decide +kernel
theorem dX7_guard_31 : decode cX7_guard 31 = .ok (.ireturn, 1) := by decide +kernel
theorem dX7_guard_32 : decode cX7_guard 32 = .ok (.aload 6, 2) := by decide +kernel
theorem dX7_guard_34 : decode cX7_guard 34 = .ok (.iload_n 2, 1) := by decide +kernel
theorem dX7_guard_35 : decode cX7_guard 35 = .ok (.iload_n 3, 1) := by decide +kernel
theorem dX7_guard_36 : decode cX7_guard 36 = .ok (.iload 4, 2) := by decide +kernel
theorem dX7_guard_38 : decode cX7_guard 38 = .ok (.iload 5, 2) := by decide +kernel
theorem dX7_guard_40 : decode cX7_guard 40 = .ok (.invokevirtual 56, 3) := by decide +kernel
theorem dX7_guard_43 : decode cX7_guard 43 = .ok (.ireturn, 1) := by decide +kernel
theorem dX7_timeout_0 : decode cX7_timeout 0 = .ok (.aload_n 0, 1) := by decide +kernel
theorem dX7_timeout_1 : decode cX7_timeout 1 = .ok (.iload_n 1, 1) := by decide +kernel
theorem dX7_timeout_2 : decode cX7_timeout 2 = .ok (.iconst 1, 1) := by decide +kernel
theorem dX7_timeout_3 : decode cX7_timeout 3 = .ok (.invokevirtual 41, 3) := by decide +kernel
theorem dX7_timeout_6 : decode cX7_timeout 6 = .ok (.astore_n 3, 1) := by decide +kernel
theorem dX7_timeout_7 : decode cX7_timeout 7 = .ok (.aload_n 3, 1) := by decide +kernel
theorem dX7_timeout_8 : decode cX7_timeout 8 = .ok (.ifnull 14, 3) := by decide +kernel
theorem dX7_timeout_11 : decode cX7_timeout 11 = .ok (.iload_n 2, 1) := by decide +kernel
theorem dX7_timeout_12 : decode cX7_timeout 12 = .ok (.ifCond .lt 10, 3) := by decide +kernel
theorem dX7_timeout_15 : decode cX7_timeout 15 = .ok (.iload_n 2, 1) := by decide +kernel
theorem dX7_timeout_16 : decode cX7_timeout 16 = .ok (.sipush 1000, 3) := by decide +kernel
theorem dX7_timeout_19 : decode cX7_timeout 19 = .ok (.if_icmp .le 5, 3) := by decide +kernel
theorem dX7_timeout_22 : decode cX7_timeout 22 = .ok (.iconst 0, 1) := by decide +kernel
theorem dX7_timeout_23 : decode cX7_timeout 23 = .ok (.ireturn, 1) := by decide +kernel
theorem dX7_timeout_24 : decode cX7_timeout 24 = .ok (.aload_n 3, 1) := by decide +kernel
theorem dX7_timeout_25 : decode cX7_timeout 25 = .ok (.iload_n 2, 1) := by decide +kernel
theorem dX7_timeout_26 : decode cX7_timeout 26 = .ok (.putfield 60, 3) := by decide +kernel
theorem dX7_timeout_29 : decode cX7_timeout 29 = .ok (.iconst 1, 1) := by decide +kernel
theorem dX7_timeout_30 : decode cX7_timeout 30 = .ok (.ireturn, 1) := by decide +kernel
theorem dX7_offer_0 : decode cX7_offer 0 = .ok (.aload_n 0, 1) := by decide +kernel
theorem dX7_offer_1 : decode cX7_offer 1 = .ok (.iload_n 1, 1) := by decide +kernel
theorem dX7_offer_2 : decode cX7_offer 2 = .ok (.iconst 1, 1) := by decide +kernel
theorem dX7_offer_3 : decode cX7_offer 3 = .ok (.invokevirtual 41, 3) := by decide +kernel
theorem dX7_offer_6 : decode cX7_offer 6 = .ok (.astore_n 2, 1) := by decide +kernel
theorem dX7_offer_7 : decode cX7_offer 7 = .ok (.aload_n 2, 1) := by decide +kernel
theorem dX7_offer_8 : decode cX7_offer 8 = .ok (.ifnull 16, 3) := by decide +kernel
theorem dX7_offer_11 : decode cX7_offer 11 = .ok (.aload_n 2, 1) := by decide +kernel
theorem dX7_offer_12 : decode cX7_offer 12 = .ok (.getfield 63, 3) := by decide +kernel
theorem dX7_offer_15 : decode cX7_offer 15 = .ok (.getfield 67, 3) := by decide +kernel
theorem dX7_offer_18 : decode cX7_offer 18 = .ok (.sipush 1000, 3) := by decide +kernel
theorem dX7_offer_21 : decode cX7_offer 21 = .ok (.if_icmp .lt 5, 3) := by decide +kernel
theorem dX7_offer_24 : decode cX7_offer 24 = .ok (.iconst 0, 1) := by decide +kernel
theorem dX7_offer_25 : decode cX7_offer 25 = .ok (.ireturn, 1) := by decide +kernel
theorem dX7_offer_26 : decode cX7_offer 26 = .ok (.aload_n 2, 1) := by decide +kernel
theorem dX7_offer_27 : decode cX7_offer 27 = .ok (.aload_n 0, 1) := by decide +kernel
theorem dX7_offer_28 : decode cX7_offer 28 = .ok (.getfield 72, 3) := by decide +kernel
theorem dX7_offer_31 : decode cX7_offer 31 = .ok (.invokevirtual 75, 3) := by decide +kernel
theorem dX7_offer_34 : decode cX7_offer 34 = .ok (.iconst 1, 1) := by decide +kernel
theorem dX7_offer_35 : decode cX7_offer 35 = .ok (.ireturn, 1) := by decide +kernel
theorem dX7_step_0 : decode cX7_step 0 = .ok (.aload_n 0, 1) := by decide +kernel
theorem dX7_step_1 : decode cX7_step 1 = .ok (.iload_n 1, 1) := by decide +kernel
theorem dX7_step_2 : decode cX7_step 2 = .ok (.invokevirtual 78, 3) := by decide +kernel
theorem dX7_step_5 : decode cX7_step 5 = .ok (.astore_n 2, 1) := by decide +kernel
theorem dX7_step_6 : decode cX7_step 6 = .ok (.aload_n 2, 1) := by decide +kernel
theorem dX7_step_7 : decode cX7_step 7 = .ok (.ifnonnull 5, 3) := by decide +kernel
theorem dX7_step_10 : decode cX7_step 10 = .ok (.iconst (-1), 1) := by decide +kernel
theorem dX7_step_11 : decode cX7_step 11 = .ok (.ireturn, 1) := by decide +kernel
theorem dX7_step_12 : decode cX7_step 12 = .ok (.aload_n 2, 1) := by decide +kernel
theorem dX7_step_13 : decode cX7_step 13 = .ok (.invokevirtual 82, 3) := by decide +kernel
theorem dX7_step_16 : decode cX7_step 16 = .ok (.ifCond .eq 8, 3) := by decide +kernel
theorem dX7_step_19 : decode cX7_step 19 = .ok (.aload_n 0, 1) := by decide +kernel
theorem dX7_step_20 : decode cX7_step 20 = .ok (.aload_n 2, 1) := by decide +kernel
theorem dX7_step_21 : decode cX7_step 21 = .ok (.invokevirtual 86, 3) := by decide +kernel
theorem dX7_step_24 : decode cX7_step 24 = .ok (.aload_n 2, 1) := by decide +kernel
theorem dX7_step_25 : decode cX7_step 25 = .ok (.invokevirtual 90, 3) := by decide +kernel
theorem dX7_step_28 : decode cX7_step 28 = .ok (.ireturn, 1) := by decide +kernel
theorem dX7_cancel_0 : decode cX7_cancel 0 = .ok (.aload_n 0, 1) := by decide +kernel
theorem dX7_cancel_1 : decode cX7_cancel 1 = .ok (.iload_n 1, 1) := by decide +kernel
theorem dX7_cancel_2 : decode cX7_cancel 2 = .ok (.invokevirtual 78, 3) := by decide +kernel
theorem dX7_cancel_5 : decode cX7_cancel 5 = .ok (.astore_n 2, 1) := by decide +kernel
theorem dX7_cancel_6 : decode cX7_cancel 6 = .ok (.aload_n 2, 1) := by decide +kernel
theorem dX7_cancel_7 : decode cX7_cancel 7 = .ok (.ifnull 21, 3) := by decide +kernel
theorem dX7_cancel_10 : decode cX7_cancel 10 = .ok (.aload_n 2, 1) := by decide +kernel
theorem dX7_cancel_11 : decode cX7_cancel 11 = .ok (.invokevirtual 82, 3) := by decide +kernel
theorem dX7_cancel_14 : decode cX7_cancel 14 = .ok (.ifCond .eq 14, 3) := by decide +kernel
theorem dX7_cancel_17 : decode cX7_cancel 17 = .ok (.aload_n 2, 1) := by decide +kernel
theorem dX7_cancel_18 : decode cX7_cancel 18 = .ok (.getfield 63, 3) := by decide +kernel
theorem dX7_cancel_21 : decode cX7_cancel 21 = .ok (.getfield 94, 3) := by decide +kernel
theorem dX7_cancel_24 : decode cX7_cancel 24 = .ok (.iconst 1, 1) := by decide +kernel
theorem dX7_cancel_25 : decode cX7_cancel 25 = .ok (.if_icmp .eq 5, 3) := by decide +kernel
theorem dX7_cancel_28 : decode cX7_cancel 28 = .ok (.iconst 0, 1) := by decide +kernel
theorem dX7_cancel_29 : decode cX7_cancel 29 = .ok (.ireturn, 1) := by decide +kernel
theorem dX7_cancel_30 : decode cX7_cancel 30 = .ok (.aload_n 0, 1) := by decide +kernel
theorem dX7_cancel_31 : decode cX7_cancel 31 = .ok (.aload_n 2, 1) := by decide +kernel
theorem dX7_cancel_32 : decode cX7_cancel 32 = .ok (.iconst 5, 1) := by decide +kernel
theorem dX7_cancel_33 : decode cX7_cancel 33 = .ok (.invokevirtual 97, 3) := by decide +kernel
theorem dX7_cancel_36 : decode cX7_cancel 36 = .ok (.aload_n 2, 1) := by decide +kernel
theorem dX7_cancel_37 : decode cX7_cancel 37 = .ok (.invokevirtual 101, 3) := by decide +kernel
theorem dX7_cancel_40 : decode cX7_cancel 40 = .ok (.ifCond .ne 7, 3) := by decide +kernel
theorem dX7_cancel_43 : decode cX7_cancel 43 = .ok (.aload_n 2, 1) := by decide +kernel
theorem dX7_cancel_44 : decode cX7_cancel 44 = .ok (.invokevirtual 104, 3) := by decide +kernel
theorem dX7_cancel_47 : decode cX7_cancel 47 = .ok (.iconst 1, 1) := by decide +kernel
theorem dX7_cancel_48 : decode cX7_cancel 48 = .ok (.ireturn, 1) := by decide +kernel
theorem dX7_finish_0 : decode cX7_finish 0 = .ok (.aload_n 0, 1) := by decide +kernel
theorem dX7_finish_1 : decode cX7_finish 1 = .ok (.iload_n 1, 1) := by decide +kernel
theorem dX7_finish_2 : decode cX7_finish 2 = .ok (.bipush 12, 2) := by decide +kernel
theorem dX7_finish_4 : decode cX7_finish 4 = .ok (.invokevirtual 41, 3) := by decide +kernel
theorem dX7_finish_7 : decode cX7_finish 7 = .ok (.astore_n 2, 1) := by decide +kernel
theorem dX7_finish_8 : decode cX7_finish 8 = .ok (.aload_n 2, 1) := by decide +kernel
theorem dX7_finish_9 : decode cX7_finish 9 = .ok (.ifnonnull 5, 3) := by decide +kernel
theorem dX7_finish_12 : decode cX7_finish 12 = .ok (.iconst 0, 1) := by decide +kernel
theorem dX7_finish_13 : decode cX7_finish 13 = .ok (.ireturn, 1) := by decide +kernel
theorem dX7_finish_14 : decode cX7_finish 14 = .ok (.aload_n 2, 1) := by decide +kernel
theorem dX7_finish_15 : decode cX7_finish 15 = .ok (.getfield 63, 3) := by decide +kernel
theorem dX7_finish_18 : decode cX7_finish 18 = .ok (.iconst 0, 1) := by decide +kernel
theorem dX7_finish_19 : decode cX7_finish 19 = .ok (.invokevirtual 107, 3) := by decide +kernel
theorem dX7_finish_22 : decode cX7_finish 22 = .ok (.aload_n 2, 1) := by decide +kernel
theorem dX7_finish_23 : decode cX7_finish 23 = .ok (.invokevirtual 45, 3) := by decide +kernel
theorem dX7_finish_26 : decode cX7_finish 26 = .ok (.iconst 1, 1) := by decide +kernel
theorem dX7_finish_27 : decode cX7_finish 27 = .ok (.ireturn, 1) := by decide +kernel
theorem dX7_tick_0 : decode cX7_tick 0 = .ok (.aload_n 0, 1) := by decide +kernel
theorem dX7_tick_1 : decode cX7_tick 1 = .ok (.dup, 1) := by decide +kernel
theorem dX7_tick_2 : decode cX7_tick 2 = .ok (.getfield 72, 3) := by decide +kernel
theorem dX7_tick_5 : decode cX7_tick 5 = .ok (.iconst 1, 1) := by decide +kernel
theorem dX7_tick_6 : decode cX7_tick 6 = .ok (.iadd, 1) := by decide +kernel
theorem dX7_tick_7 : decode cX7_tick 7 = .ok (.putfield 72, 3) := by decide +kernel
theorem dX7_tick_10 : decode cX7_tick 10 = .ok (.aload_n 0, 1) := by decide +kernel
theorem dX7_tick_11 : decode cX7_tick 11 = .ok (.getfield 72, 3) := by decide +kernel
theorem dX7_tick_14 : decode cX7_tick 14 = .ok (.ireturn, 1) := by decide +kernel
theorem dX7_run_0 : decode cX7_run 0 = .ok (.aload_n 0, 1) := by decide +kernel
theorem dX7_run_1 : decode cX7_run 1 = .ok (.getfield 20, 3) := by decide +kernel
theorem dX7_run_4 : decode cX7_run 4 = .ok (.arraylength, 1) := by decide +kernel
theorem dX7_run_5 : decode cX7_run 5 = .ok (.istore_n 3, 1) := by decide +kernel
theorem dX7_run_6 : decode cX7_run 6 = .ok (.iload_n 1, 1) := by decide +kernel
theorem dX7_run_7 : decode cX7_run 7 = .ok (.ifCond .lt 14, 3) := by decide +kernel
theorem dX7_run_10 : decode cX7_run 10 = .ok (.iload_n 1, 1) := by decide +kernel
theorem dX7_run_11 : decode cX7_run 11 = .ok (.sipush 5000, 3) := by decide +kernel
theorem dX7_run_14 : decode cX7_run 14 = .ok (.if_icmp .gt 7, 3) := by decide +kernel
theorem dX7_run_17 : decode cX7_run 17 = .ok (.iload_n 3, 1) := by decide +kernel
theorem dX7_run_18 : decode cX7_run 18 = .ok (.ifCond .ne 5, 3) := by decide +kernel
theorem dX7_run_21 : decode cX7_run 21 = .ok (.iconst (-1), 1) := by decide +kernel
theorem dX7_run_22 : decode cX7_run 22 = .ok (.ireturn, 1) := by decide +kernel
theorem dX7_run_23 : decode cX7_run 23 = .ok (.aload_n 0, 1) := by decide +kernel
theorem dX7_run_24 : decode cX7_run 24 = .ok (.getfield 37, 3) := by decide +kernel
theorem dX7_run_27 : decode cX7_run 27 = .ok (.getfield 110, 3) := by decide +kernel
theorem dX7_run_30 : decode cX7_run 30 = .ok (.istore 4, 2) := by decide +kernel
theorem dX7_run_32 : decode cX7_run 32 = .ok (.iload_n 2, 1) := by decide +kernel
theorem dX7_run_33 : decode cX7_run 33 = .ok (.istore 5, 2) := by decide +kernel
theorem dX7_run_35 : decode cX7_run 35 = .ok (.iconst 0, 1) := by decide +kernel
theorem dX7_run_36 : decode cX7_run 36 = .ok (.istore 6, 2) := by decide +kernel
theorem dX7_run_38 : decode cX7_run 38 = .ok (.iload 6, 2) := by decide +kernel
theorem dX7_run_40 : decode cX7_run 40 = .ok (.iload_n 1, 1) := by decide +kernel
theorem dX7_run_41 : decode cX7_run 41 = .ok (.if_icmp .ge 52, 3) := by decide +kernel
theorem dX7_run_44 : decode cX7_run 44 = .ok (.iload 5, 2) := by decide +kernel
theorem dX7_run_46 : decode cX7_run 46 = .ok (.ldc 113, 2) := by decide +kernel
theorem dX7_run_48 : decode cX7_run 48 = .ok (.imul, 1) := by decide +kernel
theorem dX7_run_49 : decode cX7_run 49 = .ok (.sipush 12345, 3) := by decide +kernel
theorem dX7_run_52 : decode cX7_run 52 = .ok (.iadd, 1) := by decide +kernel
theorem dX7_run_53 : decode cX7_run 53 = .ok (.istore 5, 2) := by decide +kernel
theorem dX7_run_55 : decode cX7_run 55 = .ok (.aload_n 0, 1) := by decide +kernel
theorem dX7_run_56 : decode cX7_run 56 = .ok (.iload 5, 2) := by decide +kernel
theorem dX7_run_58 : decode cX7_run 58 = .ok (.bipush 16, 2) := by decide +kernel
theorem dX7_run_60 : decode cX7_run 60 = .ok (.iushr, 1) := by decide +kernel
theorem dX7_run_61 : decode cX7_run 61 = .ok (.iload_n 3, 1) := by decide +kernel
theorem dX7_run_62 : decode cX7_run 62 = .ok (.irem, 1) := by decide +kernel
theorem dX7_run_63 : decode cX7_run 63 = .ok (.invokevirtual 78, 3) := by decide +kernel
theorem dX7_run_66 : decode cX7_run 66 = .ok (.astore 7, 2) := by decide +kernel
theorem dX7_run_68 : decode cX7_run 68 = .ok (.aload 7, 2) := by decide +kernel
theorem dX7_run_70 : decode cX7_run 70 = .ok (.ifnull 17, 3) := by decide +kernel
theorem dX7_run_73 : decode cX7_run 73 = .ok (.aload 7, 2) := by decide +kernel
theorem dX7_run_75 : decode cX7_run 75 = .ok (.invokevirtual 82, 3) := by decide +kernel
theorem dX7_run_78 : decode cX7_run 78 = .ok (.ifCond .eq 9, 3) := by decide +kernel
theorem dX7_run_81 : decode cX7_run 81 = .ok (.aload_n 0, 1) := by decide +kernel
theorem dX7_run_82 : decode cX7_run 82 = .ok (.aload 7, 2) := by decide +kernel
theorem dX7_run_84 : decode cX7_run 84 = .ok (.invokevirtual 86, 3) := by decide +kernel
theorem dX7_run_87 : decode cX7_run 87 = .ok (.iinc 6 1, 3) := by decide +kernel
theorem dX7_run_90 : decode cX7_run 90 = .ok (.goto (-52), 3) := by decide +kernel
theorem dX7_run_93 : decode cX7_run 93 = .ok (.aload_n 0, 1) := by decide +kernel
theorem dX7_run_94 : decode cX7_run 94 = .ok (.getfield 37, 3) := by decide +kernel
theorem dX7_run_97 : decode cX7_run 97 = .ok (.getfield 110, 3) := by decide +kernel
theorem dX7_run_100 : decode cX7_run 100 = .ok (.iload 4, 2) := by decide +kernel
theorem dX7_run_102 : decode cX7_run 102 = .ok (.isub, 1) := by decide +kernel
theorem dX7_run_103 : decode cX7_run 103 = .ok (.ireturn, 1) := by decide +kernel
theorem dX7_phase_0 : decode cX7_phase 0 = .ok (.aload_n 0, 1) := by decide +kernel
theorem dX7_phase_1 : decode cX7_phase 1 = .ok (.iload_n 1, 1) := by decide +kernel
theorem dX7_phase_2 : decode cX7_phase 2 = .ok (.invokevirtual 78, 3) := by decide +kernel
theorem dX7_phase_5 : decode cX7_phase 5 = .ok (.astore_n 2, 1) := by decide +kernel
theorem dX7_phase_6 : decode cX7_phase 6 = .ok (.aload_n 2, 1) := by decide +kernel
theorem dX7_phase_7 : decode cX7_phase 7 = .ok (.ifnonnull 7, 3) := by decide +kernel
theorem dX7_phase_10 : decode cX7_phase 10 = .ok (.iconst (-1), 1) := by decide +kernel
theorem dX7_phase_11 : decode cX7_phase 11 = .ok (.goto 7, 3) := by decide +kernel
theorem dX7_phase_14 : decode cX7_phase 14 = .ok (.aload_n 2, 1) := by decide +kernel
theorem dX7_phase_15 : decode cX7_phase 15 = .ok (.getfield 48, 3) := by decide +kernel
theorem dX7_phase_18 : decode cX7_phase 18 = .ok (.ireturn, 1) := by decide +kernel
theorem dX7_word_0 : decode cX7_word 0 = .ok (.aload_n 0, 1) := by decide +kernel
theorem dX7_word_1 : decode cX7_word 1 = .ok (.iload_n 1, 1) := by decide +kernel
theorem dX7_word_2 : decode cX7_word 2 = .ok (.invokevirtual 78, 3) := by decide +kernel
theorem dX7_word_5 : decode cX7_word 5 = .ok (.astore_n 3, 1) := by decide +kernel
theorem dX7_word_6 : decode cX7_word 6 = .ok (.aload_n 3, 1) := by decide +kernel
theorem dX7_word_7 : decode cX7_word 7 = .ok (.ifnonnull 7, 3) := by decide +kernel
theorem dX7_word_10 : decode cX7_word 10 = .ok (.iconst (-1), 1) := by decide +kernel
theorem dX7_word_11 : decode cX7_word 11 = .ok (.goto 11, 3) := by decide +kernel
theorem dX7_word_14 : decode cX7_word 14 = .ok (.aload_n 3, 1) := by decide +kernel
theorem dX7_word_15 : decode cX7_word 15 = .ok (.getfield 63, 3) := by decide +kernel
theorem dX7_word_18 : decode cX7_word 18 = .ok (.iload_n 2, 1) := by decide +kernel
theorem dX7_word_19 : decode cX7_word 19 = .ok (.invokevirtual 114, 3) := by decide +kernel
theorem dX7_word_22 : decode cX7_word 22 = .ok (.ireturn, 1) := by decide +kernel
theorem dX7_outcome_0 : decode cX7_outcome 0 = .ok (.aload_n 0, 1) := by decide +kernel
theorem dX7_outcome_1 : decode cX7_outcome 1 = .ok (.iload_n 1, 1) := by decide +kernel
theorem dX7_outcome_2 : decode cX7_outcome 2 = .ok (.invokevirtual 78, 3) := by decide +kernel
theorem dX7_outcome_5 : decode cX7_outcome 5 = .ok (.astore_n 3, 1) := by decide +kernel
theorem dX7_outcome_6 : decode cX7_outcome 6 = .ok (.aload_n 3, 1) := by decide +kernel
theorem dX7_outcome_7 : decode cX7_outcome 7 = .ok (.ifnonnull 7, 3) := by decide +kernel
theorem dX7_outcome_10 : decode cX7_outcome 10 = .ok (.iconst (-1), 1) := by decide +kernel
theorem dX7_outcome_11 : decode cX7_outcome 11 = .ok (.goto 11, 3) := by decide +kernel
theorem dX7_outcome_14 : decode cX7_outcome 14 = .ok (.aload_n 3, 1) := by decide +kernel
theorem dX7_outcome_15 : decode cX7_outcome 15 = .ok (.getfield 118, 3) := by decide +kernel
theorem dX7_outcome_18 : decode cX7_outcome 18 = .ok (.iload_n 2, 1) := by decide +kernel
theorem dX7_outcome_19 : decode cX7_outcome 19 = .ok (.invokevirtual 122, 3) := by decide +kernel
theorem dX7_outcome_22 : decode cX7_outcome 22 = .ok (.ireturn, 1) := by decide +kernel
theorem dX7_entry_0 : decode cX7_entry 0 = .ok (.aload_n 0, 1) := by decide +kernel
theorem dX7_entry_1 : decode cX7_entry 1 = .ok (.iload_n 1, 1) := by decide +kernel
theorem dX7_entry_2 : decode cX7_entry 2 = .ok (.invokevirtual 52, 3) := by decide +kernel
theorem dX7_entry_5 : decode cX7_entry 5 = .ok (.astore 4, 2) := by decide +kernel
theorem dX7_entry_7 : decode cX7_entry 7 = .ok (.aload 4, 2) := by decide +kernel
theorem dX7_entry_9 : decode cX7_entry 9 = .ok (.ifnonnull 7, 3) := by decide +kernel
theorem dX7_entry_12 : decode cX7_entry 12 = .ok (.aconst_null, 1) := by decide +kernel
theorem dX7_entry_13 : decode cX7_entry 13 = .ok (.goto 9, 3) := by decide +kernel
theorem dX7_entry_16 : decode cX7_entry 16 = .ok (.aload 4, 2) := by decide +kernel
theorem dX7_entry_18 : decode cX7_entry 18 = .ok (.iload_n 2, 1) := by decide +kernel
theorem dX7_entry_19 : decode cX7_entry 19 = .ok (.invokevirtual 125, 3) := by decide +kernel
theorem dX7_entry_22 : decode cX7_entry 22 = .ok (.astore 5, 2) := by decide +kernel
theorem dX7_entry_24 : decode cX7_entry 24 = .ok (.aload 5, 2) := by decide +kernel
theorem dX7_entry_26 : decode cX7_entry 26 = .ok (.ifnonnull 7, 3) := by decide +kernel
theorem dX7_entry_29 : decode cX7_entry 29 = .ok (.iconst (-1), 1) := by decide +kernel
theorem dX7_entry_30 : decode cX7_entry 30 = .ok (.goto 9, 3) := by decide +kernel
theorem dX7_entry_33 : decode cX7_entry 33 = .ok (.aload 5, 2) := by decide +kernel
theorem dX7_entry_35 : decode cX7_entry 35 = .ok (.iload_n 3, 1) := by decide +kernel
theorem dX7_entry_36 : decode cX7_entry 36 = .ok (.invokevirtual 129, 3) := by decide +kernel
theorem dX7_entry_39 : decode cX7_entry 39 = .ok (.ireturn, 1) := by decide +kernel
theorem dX7_pair_0 : decode cX7_pair 0 = .ok (.aload_n 0, 1) := by decide +kernel
theorem dX7_pair_1 : decode cX7_pair 1 = .ok (.getfield 37, 3) := by decide +kernel
theorem dX7_pair_4 : decode cX7_pair 4 = .ok (.iload_n 1, 1) := by decide +kernel
theorem dX7_pair_5 : decode cX7_pair 5 = .ok (.iload_n 2, 1) := by decide +kernel
theorem dX7_pair_6 : decode cX7_pair 6 = .ok (.invokevirtual 132, 3) := by decide +kernel
theorem dX7_pair_9 : decode cX7_pair 9 = .ok (.ireturn, 1) := by decide +kernel
theorem dX7_doubles_0 : decode cX7_doubles 0 = .ok (.aload_n 0, 1) := by decide +kernel
theorem dX7_doubles_1 : decode cX7_doubles 1 = .ok (.getfield 134, 3) := by decide +kernel
theorem dX7_doubles_4 : decode cX7_doubles 4 = .ok (.ireturn, 1) := by decide +kernel
theorem dX7_unmet_0 : decode cX7_unmet 0 = .ok (.iconst 0, 1) := by decide +kernel
theorem dX7_unmet_1 : decode cX7_unmet 1 = .ok (.istore_n 1, 1) := by decide +kernel
theorem dX7_unmet_2 : decode cX7_unmet 2 = .ok (.iconst 0, 1) := by decide +kernel
theorem dX7_unmet_3 : decode cX7_unmet 3 = .ok (.istore_n 2, 1) := by decide +kernel
theorem dX7_unmet_4 : decode cX7_unmet 4 = .ok (.iload_n 2, 1) := by decide +kernel
theorem dX7_unmet_5 : decode cX7_unmet 5 = .ok (.aload_n 0, 1) := by decide +kernel
theorem dX7_unmet_6 : decode cX7_unmet 6 = .ok (.getfield 20, 3) := by decide +kernel
theorem dX7_unmet_9 : decode cX7_unmet 9 = .ok (.arraylength, 1) := by decide +kernel
theorem dX7_unmet_10 : decode cX7_unmet 10 = .ok (.if_icmp .ge 49, 3) := by decide +kernel
theorem dX7_unmet_13 : decode cX7_unmet 13 = .ok (.iload_n 2, 1) := by decide +kernel
theorem dX7_unmet_14 : decode cX7_unmet 14 = .ok (.iconst 1, 1) := by decide +kernel
theorem dX7_unmet_15 : decode cX7_unmet 15 = .ok (.iadd, 1) := by decide +kernel
theorem dX7_unmet_16 : decode cX7_unmet 16 = .ok (.istore_n 3, 1) := by decide +kernel
theorem dX7_unmet_17 : decode cX7_unmet 17 = .ok (.iload_n 3, 1) := by decide +kernel
theorem dX7_unmet_18 : decode cX7_unmet 18 = .ok (.aload_n 0, 1) := by decide +kernel
theorem dX7_unmet_19 : decode cX7_unmet 19 = .ok (.getfield 20, 3) := by decide +kernel
theorem dX7_unmet_22 : decode cX7_unmet 22 = .ok (.arraylength, 1) := by decide +kernel
theorem dX7_unmet_23 : decode cX7_unmet 23 = .ok (.if_icmp .ge 30, 3) := by decide +kernel
theorem dX7_unmet_26 : decode cX7_unmet 26 = .ok (.aload_n 0, 1) := by decide +kernel
theorem dX7_unmet_27 : decode cX7_unmet 27 = .ok (.getfield 20, 3) := by decide +kernel
theorem dX7_unmet_30 : decode cX7_unmet 30 = .ok (.iload_n 2, 1) := by decide +kernel
theorem dX7_unmet_31 : decode cX7_unmet 31 = .ok (.aaload, 1) := by decide +kernel
theorem dX7_unmet_32 : decode cX7_unmet 32 = .ok (.aload_n 0, 1) := by decide +kernel
theorem dX7_unmet_33 : decode cX7_unmet 33 = .ok (.getfield 20, 3) := by decide +kernel
theorem dX7_unmet_36 : decode cX7_unmet 36 = .ok (.iload_n 3, 1) := by decide +kernel
theorem dX7_unmet_37 : decode cX7_unmet 37 = .ok (.aaload, 1) := by decide +kernel
theorem dX7_unmet_38 : decode cX7_unmet 38 = .ok (.invokestatic 137, 3) := by decide +kernel
theorem dX7_unmet_41 : decode cX7_unmet 41 = .ok (.ifCond .eq 6, 3) := by decide +kernel
theorem dX7_unmet_44 : decode cX7_unmet 44 = .ok (.iinc 1 1, 3) := by decide +kernel
theorem dX7_unmet_47 : decode cX7_unmet 47 = .ok (.iinc 3 1, 3) := by decide +kernel
theorem dX7_unmet_50 : decode cX7_unmet 50 = .ok (.goto (-33), 3) := by decide +kernel
theorem dX7_unmet_53 : decode cX7_unmet 53 = .ok (.iinc 2 1, 3) := by decide +kernel
theorem dX7_unmet_56 : decode cX7_unmet 56 = .ok (.goto (-52), 3) := by decide +kernel
theorem dX7_unmet_59 : decode cX7_unmet 59 = .ok (.iload_n 1, 1) := by decide +kernel
theorem dX7_unmet_60 : decode cX7_unmet 60 = .ok (.ireturn, 1) := by decide +kernel
theorem dX7_held_0 : decode cX7_held 0 = .ok (.iconst 0, 1) := by decide +kernel
theorem dX7_held_1 : decode cX7_held 1 = .ok (.istore_n 1, 1) := by decide +kernel
theorem dX7_held_2 : decode cX7_held 2 = .ok (.iconst 0, 1) := by decide +kernel
theorem dX7_held_3 : decode cX7_held 3 = .ok (.istore_n 2, 1) := by decide +kernel
theorem dX7_held_4 : decode cX7_held 4 = .ok (.iload_n 2, 1) := by decide +kernel
theorem dX7_held_5 : decode cX7_held 5 = .ok (.aload_n 0, 1) := by decide +kernel
theorem dX7_held_6 : decode cX7_held 6 = .ok (.getfield 20, 3) := by decide +kernel
theorem dX7_held_9 : decode cX7_held 9 = .ok (.arraylength, 1) := by decide +kernel
theorem dX7_held_10 : decode cX7_held 10 = .ok (.if_icmp .ge 57, 3) := by decide +kernel
theorem dX7_held_13 : decode cX7_held 13 = .ok (.aload_n 0, 1) := by decide +kernel
theorem dX7_held_14 : decode cX7_held 14 = .ok (.getfield 20, 3) := by decide +kernel
theorem dX7_held_17 : decode cX7_held 17 = .ok (.iload_n 2, 1) := by decide +kernel
theorem dX7_held_18 : decode cX7_held 18 = .ok (.aaload, 1) := by decide +kernel
theorem dX7_held_19 : decode cX7_held 19 = .ok (.getfield 63, 3) := by decide +kernel
theorem dX7_held_22 : decode cX7_held 22 = .ok (.astore_n 3, 1) := by decide +kernel
theorem dX7_held_23 : decode cX7_held 23 = .ok (.aload_n 3, 1) := by decide +kernel
theorem dX7_held_24 : decode cX7_held 24 = .ok (.getfield 94, 3) := by decide +kernel
theorem dX7_held_27 : decode cX7_held 27 = .ok (.iconst 2, 1) := by decide +kernel
theorem dX7_held_28 : decode cX7_held 28 = .ok (.if_icmp .ne 14, 3) := by decide +kernel
theorem dX7_held_31 : decode cX7_held 31 = .ok (.aload_n 0, 1) := by decide +kernel
theorem dX7_held_32 : decode cX7_held 32 = .ok (.aload_n 3, 1) := by decide +kernel
theorem dX7_held_33 : decode cX7_held 33 = .ok (.getfield 141, 3) := by decide +kernel
theorem dX7_held_36 : decode cX7_held 36 = .ok (.invokevirtual 78, 3) := by decide +kernel
theorem dX7_held_39 : decode cX7_held 39 = .ok (.goto 4, 3) := by decide +kernel
theorem dX7_held_42 : decode cX7_held 42 = .ok (.aconst_null, 1) := by decide +kernel
theorem dX7_held_43 : decode cX7_held 43 = .ok (.astore 4, 2) := by decide +kernel
theorem dX7_held_45 : decode cX7_held 45 = .ok (.aload 4, 2) := by decide +kernel
theorem dX7_held_47 : decode cX7_held 47 = .ok (.ifnull 14, 3) := by decide +kernel
theorem dX7_held_50 : decode cX7_held 50 = .ok (.aload 4, 2) := by decide +kernel
theorem dX7_held_52 : decode cX7_held 52 = .ok (.invokevirtual 101, 3) := by decide +kernel
theorem dX7_held_55 : decode cX7_held 55 = .ok (.ifCond .ne 6, 3) := by decide +kernel
theorem dX7_held_58 : decode cX7_held 58 = .ok (.iinc 1 1, 3) := by decide +kernel
theorem dX7_held_61 : decode cX7_held 61 = .ok (.iinc 2 1, 3) := by decide +kernel
theorem dX7_held_64 : decode cX7_held 64 = .ok (.goto (-60), 3) := by decide +kernel
theorem dX7_held_67 : decode cX7_held 67 = .ok (.iload_n 1, 1) := by decide +kernel
theorem dX7_held_68 : decode cX7_held 68 = .ok (.ireturn, 1) := by decide +kernel
theorem dX7_count_0 : decode cX7_count 0 = .ok (.iload_n 1, 1) := by decide +kernel
theorem dX7_count_1 : decode cX7_count 1 = .ok (.tableswitch 100 0 8 #[51, 57, 62, 70, 75, 80, 85, 90, 95], 51) := by decide +kernel
theorem dX7_count_52 : decode cX7_count 52 = .ok (.aload_n 0, 1) := by decide +kernel
theorem dX7_count_53 : decode cX7_count 53 = .ok (.getfield 20, 3) := by decide +kernel
theorem dX7_count_56 : decode cX7_count 56 = .ok (.arraylength, 1) := by decide +kernel
theorem dX7_count_57 : decode cX7_count 57 = .ok (.ireturn, 1) := by decide +kernel
theorem dX7_count_58 : decode cX7_count 58 = .ok (.aload_n 0, 1) := by decide +kernel
theorem dX7_count_59 : decode cX7_count 59 = .ok (.invokevirtual 144, 3) := by decide +kernel
theorem dX7_count_62 : decode cX7_count 62 = .ok (.ireturn, 1) := by decide +kernel
theorem dX7_count_63 : decode cX7_count 63 = .ok (.aload_n 0, 1) := by decide +kernel
theorem dX7_count_64 : decode cX7_count 64 = .ok (.getfield 37, 3) := by decide +kernel
theorem dX7_count_67 : decode cX7_count 67 = .ok (.getfield 110, 3) := by decide +kernel
theorem dX7_count_70 : decode cX7_count 70 = .ok (.ireturn, 1) := by decide +kernel
theorem dX7_count_71 : decode cX7_count 71 = .ok (.aload_n 0, 1) := by decide +kernel
theorem dX7_count_72 : decode cX7_count 72 = .ok (.getfield 72, 3) := by decide +kernel
theorem dX7_count_75 : decode cX7_count 75 = .ok (.ireturn, 1) := by decide +kernel
theorem dX7_count_76 : decode cX7_count 76 = .ok (.aload_n 0, 1) := by decide +kernel
theorem dX7_count_77 : decode cX7_count 77 = .ok (.getfield 147, 3) := by decide +kernel
theorem dX7_count_80 : decode cX7_count 80 = .ok (.ireturn, 1) := by decide +kernel
theorem dX7_count_81 : decode cX7_count 81 = .ok (.aload_n 0, 1) := by decide +kernel
theorem dX7_count_82 : decode cX7_count 82 = .ok (.invokevirtual 150, 3) := by decide +kernel
theorem dX7_count_85 : decode cX7_count 85 = .ok (.ireturn, 1) := by decide +kernel
theorem dX7_count_86 : decode cX7_count 86 = .ok (.aload_n 0, 1) := by decide +kernel
theorem dX7_count_87 : decode cX7_count 87 = .ok (.getfield 153, 3) := by decide +kernel
theorem dX7_count_90 : decode cX7_count 90 = .ok (.ireturn, 1) := by decide +kernel
theorem dX7_count_91 : decode cX7_count 91 = .ok (.aload_n 0, 1) := by decide +kernel
theorem dX7_count_92 : decode cX7_count 92 = .ok (.getfield 156, 3) := by decide +kernel
theorem dX7_count_95 : decode cX7_count 95 = .ok (.ireturn, 1) := by decide +kernel
theorem dX7_count_96 : decode cX7_count 96 = .ok (.aload_n 0, 1) := by decide +kernel
theorem dX7_count_97 : decode cX7_count 97 = .ok (.getfield 159, 3) := by decide +kernel
theorem dX7_count_100 : decode cX7_count 100 = .ok (.ireturn, 1) := by decide +kernel
theorem dX7_count_101 : decode cX7_count 101 = .ok (.iconst (-1), 1) := by decide +kernel
theorem dX7_count_102 : decode cX7_count 102 = .ok (.ireturn, 1) := by decide +kernel
theorem dX7_procAt_0 : decode cX7_procAt 0 = .ok (.iload_n 1, 1) := by decide +kernel
theorem dX7_procAt_1 : decode cX7_procAt 1 = .ok (.ifCond .lt 21, 3) := by decide +kernel
theorem dX7_procAt_4 : decode cX7_procAt 4 = .ok (.iload_n 1, 1) := by decide +kernel
theorem dX7_procAt_5 : decode cX7_procAt 5 = .ok (.aload_n 0, 1) := by decide +kernel
theorem dX7_procAt_6 : decode cX7_procAt 6 = .ok (.getfield 20, 3) := by decide +kernel
theorem dX7_procAt_9 : decode cX7_procAt 9 = .ok (.arraylength, 1) := by decide +kernel
theorem dX7_procAt_10 : decode cX7_procAt 10 = .ok (.if_icmp .ge 12, 3) := by decide +kernel
theorem dX7_procAt_13 : decode cX7_procAt 13 = .ok (.aload_n 0, 1) := by decide +kernel
theorem dX7_procAt_14 : decode cX7_procAt 14 = .ok (.getfield 20, 3) := by decide +kernel
theorem dX7_procAt_17 : decode cX7_procAt 17 = .ok (.iload_n 1, 1) := by decide +kernel
theorem dX7_procAt_18 : decode cX7_procAt 18 = .ok (.aaload, 1) := by decide +kernel
theorem dX7_procAt_19 : decode cX7_procAt 19 = .ok (.goto 4, 3) := by decide +kernel
theorem dX7_procAt_22 : decode cX7_procAt 22 = .ok (.aconst_null, 1) := by decide +kernel
theorem dX7_procAt_23 : decode cX7_procAt 23 = .ok (.areturn, 1) := by decide +kernel
theorem dX7_procIn_0 : decode cX7_procIn 0 = .ok (.aload_n 0, 1) := by decide +kernel
theorem dX7_procIn_1 : decode cX7_procIn 1 = .ok (.iload_n 1, 1) := by decide +kernel
theorem dX7_procIn_2 : decode cX7_procIn 2 = .ok (.invokevirtual 78, 3) := by decide +kernel
theorem dX7_procIn_5 : decode cX7_procIn 5 = .ok (.astore_n 3, 1) := by decide +kernel
theorem dX7_procIn_6 : decode cX7_procIn 6 = .ok (.aload_n 3, 1) := by decide +kernel
theorem dX7_procIn_7 : decode cX7_procIn 7 = .ok (.ifnull 15, 3) := by decide +kernel
theorem dX7_procIn_10 : decode cX7_procIn 10 = .ok (.aload_n 3, 1) := by decide +kernel
theorem dX7_procIn_11 : decode cX7_procIn 11 = .ok (.getfield 48, 3) := by decide +kernel
theorem dX7_procIn_14 : decode cX7_procIn 14 = .ok (.iload_n 2, 1) := by decide +kernel
theorem dX7_procIn_15 : decode cX7_procIn 15 = .ok (.if_icmp .ne 7, 3) := by decide +kernel
theorem dX7_procIn_18 : decode cX7_procIn 18 = .ok (.aload_n 3, 1) := by decide +kernel
theorem dX7_procIn_19 : decode cX7_procIn 19 = .ok (.goto 4, 3) := by decide +kernel
theorem dX7_procIn_22 : decode cX7_procIn 22 = .ok (.aconst_null, 1) := by decide +kernel
theorem dX7_procIn_23 : decode cX7_procIn 23 = .ok (.areturn, 1) := by decide +kernel
theorem dX7_listAt_0 : decode cX7_listAt 0 = .ok (.iload_n 1, 1) := by decide +kernel
theorem dX7_listAt_1 : decode cX7_listAt 1 = .ok (.ifCond .lt 21, 3) := by decide +kernel
theorem dX7_listAt_4 : decode cX7_listAt 4 = .ok (.iload_n 1, 1) := by decide +kernel
theorem dX7_listAt_5 : decode cX7_listAt 5 = .ok (.aload_n 0, 1) := by decide +kernel
theorem dX7_listAt_6 : decode cX7_listAt 6 = .ok (.getfield 29, 3) := by decide +kernel
theorem dX7_listAt_9 : decode cX7_listAt 9 = .ok (.arraylength, 1) := by decide +kernel
theorem dX7_listAt_10 : decode cX7_listAt 10 = .ok (.if_icmp .ge 12, 3) := by decide +kernel
theorem dX7_listAt_13 : decode cX7_listAt 13 = .ok (.aload_n 0, 1) := by decide +kernel
theorem dX7_listAt_14 : decode cX7_listAt 14 = .ok (.getfield 29, 3) := by decide +kernel
theorem dX7_listAt_17 : decode cX7_listAt 17 = .ok (.iload_n 1, 1) := by decide +kernel
theorem dX7_listAt_18 : decode cX7_listAt 18 = .ok (.aaload, 1) := by decide +kernel
theorem dX7_listAt_19 : decode cX7_listAt 19 = .ok (.goto 4, 3) := by decide +kernel
theorem dX7_listAt_22 : decode cX7_listAt 22 = .ok (.aconst_null, 1) := by decide +kernel
theorem dX7_listAt_23 : decode cX7_listAt 23 = .ok (.areturn, 1) := by decide +kernel
theorem dX7_present_0 : decode cX7_present 0 = .ok (.iconst 0, 1) := by decide +kernel
theorem dX7_present_1 : decode cX7_present 1 = .ok (.istore_n 1, 1) := by decide +kernel
theorem dX7_present_2 : decode cX7_present 2 = .ok (.iconst 0, 1) := by decide +kernel
theorem dX7_present_3 : decode cX7_present 3 = .ok (.istore_n 2, 1) := by decide +kernel
theorem dX7_present_4 : decode cX7_present 4 = .ok (.iload_n 2, 1) := by decide +kernel
theorem dX7_present_5 : decode cX7_present 5 = .ok (.aload_n 0, 1) := by decide +kernel
theorem dX7_present_6 : decode cX7_present 6 = .ok (.getfield 20, 3) := by decide +kernel
theorem dX7_present_9 : decode cX7_present 9 = .ok (.arraylength, 1) := by decide +kernel
theorem dX7_present_10 : decode cX7_present 10 = .ok (.if_icmp .ge 24, 3) := by decide +kernel
theorem dX7_present_13 : decode cX7_present 13 = .ok (.aload_n 0, 1) := by decide +kernel
theorem dX7_present_14 : decode cX7_present 14 = .ok (.getfield 20, 3) := by decide +kernel
theorem dX7_present_17 : decode cX7_present 17 = .ok (.iload_n 2, 1) := by decide +kernel
theorem dX7_present_18 : decode cX7_present 18 = .ok (.aaload, 1) := by decide +kernel
theorem dX7_present_19 : decode cX7_present 19 = .ok (.getfield 48, 3) := by decide +kernel
theorem dX7_present_22 : decode cX7_present 22 = .ok (.ifCond .eq 6, 3) := by decide +kernel
theorem dX7_present_25 : decode cX7_present 25 = .ok (.iinc 1 1, 3) := by decide +kernel
theorem dX7_present_28 : decode cX7_present 28 = .ok (.iinc 2 1, 3) := by decide +kernel
theorem dX7_present_31 : decode cX7_present 31 = .ok (.goto (-27), 3) := by decide +kernel
theorem dX7_present_34 : decode cX7_present 34 = .ok (.iload_n 1, 1) := by decide +kernel
theorem dX7_present_35 : decode cX7_present 35 = .ok (.ireturn, 1) := by decide +kernel
theorem dX7_listed_0 : decode cX7_listed 0 = .ok (.iconst 0, 1) := by decide +kernel
theorem dX7_listed_1 : decode cX7_listed 1 = .ok (.istore_n 1, 1) := by decide +kernel
theorem dX7_listed_2 : decode cX7_listed 2 = .ok (.iconst 0, 1) := by decide +kernel
theorem dX7_listed_3 : decode cX7_listed 3 = .ok (.istore_n 2, 1) := by decide +kernel
theorem dX7_listed_4 : decode cX7_listed 4 = .ok (.iload_n 2, 1) := by decide +kernel
theorem dX7_listed_5 : decode cX7_listed 5 = .ok (.aload_n 0, 1) := by decide +kernel
theorem dX7_listed_6 : decode cX7_listed 6 = .ok (.getfield 29, 3) := by decide +kernel
theorem dX7_listed_9 : decode cX7_listed 9 = .ok (.arraylength, 1) := by decide +kernel
theorem dX7_listed_10 : decode cX7_listed 10 = .ok (.if_icmp .ge 21, 3) := by decide +kernel
theorem dX7_listed_13 : decode cX7_listed 13 = .ok (.iload_n 1, 1) := by decide +kernel
theorem dX7_listed_14 : decode cX7_listed 14 = .ok (.aload_n 0, 1) := by decide +kernel
theorem dX7_listed_15 : decode cX7_listed 15 = .ok (.getfield 29, 3) := by decide +kernel
theorem dX7_listed_18 : decode cX7_listed 18 = .ok (.iload_n 2, 1) := by decide +kernel
theorem dX7_listed_19 : decode cX7_listed 19 = .ok (.aaload, 1) := by decide +kernel
theorem dX7_listed_20 : decode cX7_listed 20 = .ok (.getfield 162, 3) := by decide +kernel
theorem dX7_listed_23 : decode cX7_listed 23 = .ok (.iadd, 1) := by decide +kernel
theorem dX7_listed_24 : decode cX7_listed 24 = .ok (.istore_n 1, 1) := by decide +kernel
theorem dX7_listed_25 : decode cX7_listed 25 = .ok (.iinc 2 1, 3) := by decide +kernel
theorem dX7_listed_28 : decode cX7_listed 28 = .ok (.goto (-24), 3) := by decide +kernel
theorem dX7_listed_31 : decode cX7_listed 31 = .ok (.iload_n 1, 1) := by decide +kernel
theorem dX7_listed_32 : decode cX7_listed 32 = .ok (.ireturn, 1) := by decide +kernel
theorem dX7_sleepUnmet_0 : decode cX7_sleepUnmet 0 = .ok (.aload_n 0, 1) := by decide +kernel
theorem dX7_sleepUnmet_1 : decode cX7_sleepUnmet 1 = .ok (.getfield 48, 3) := by decide +kernel
theorem dX7_sleepUnmet_4 : decode cX7_sleepUnmet 4 = .ok (.bipush 10, 2) := by decide +kernel
theorem dX7_sleepUnmet_6 : decode cX7_sleepUnmet 6 = .ok (.if_icmp .ne 46, 3) := by decide +kernel
theorem dX7_sleepUnmet_9 : decode cX7_sleepUnmet 9 = .ok (.aload_n 1, 1) := by decide +kernel
theorem dX7_sleepUnmet_10 : decode cX7_sleepUnmet 10 = .ok (.getfield 48, 3) := by decide +kernel
theorem dX7_sleepUnmet_13 : decode cX7_sleepUnmet 13 = .ok (.bipush 10, 2) := by decide +kernel
theorem dX7_sleepUnmet_15 : decode cX7_sleepUnmet 15 = .ok (.if_icmp .ne 37, 3) := by decide +kernel
theorem dX7_sleepUnmet_18 : decode cX7_sleepUnmet 18 = .ok (.aload_n 0, 1) := by decide +kernel
theorem dX7_sleepUnmet_19 : decode cX7_sleepUnmet 19 = .ok (.getfield 63, 3) := by decide +kernel
theorem dX7_sleepUnmet_22 : decode cX7_sleepUnmet 22 = .ok (.getfield 94, 3) := by decide +kernel
theorem dX7_sleepUnmet_25 : decode cX7_sleepUnmet 25 = .ok (.iconst 1, 1) := by decide +kernel
theorem dX7_sleepUnmet_26 : decode cX7_sleepUnmet 26 = .ok (.if_icmp .ne 26, 3) := by decide +kernel
theorem dX7_sleepUnmet_29 : decode cX7_sleepUnmet 29 = .ok (.aload_n 1, 1) := by decide +kernel
theorem dX7_sleepUnmet_30 : decode cX7_sleepUnmet 30 = .ok (.getfield 63, 3) := by decide +kernel
theorem dX7_sleepUnmet_33 : decode cX7_sleepUnmet 33 = .ok (.getfield 94, 3) := by decide +kernel
theorem dX7_sleepUnmet_36 : decode cX7_sleepUnmet 36 = .ok (.iconst 1, 1) := by decide +kernel
theorem dX7_sleepUnmet_37 : decode cX7_sleepUnmet 37 = .ok (.if_icmp .ne 15, 3) := by decide +kernel
theorem dX7_sleepUnmet_40 : decode cX7_sleepUnmet 40 = .ok (.aload_n 0, 1) := by decide +kernel
theorem dX7_sleepUnmet_41 : decode cX7_sleepUnmet 41 = .ok (.aload_n 1, 1) := by decide +kernel
theorem dX7_sleepUnmet_42 : decode cX7_sleepUnmet 42 = .ok (.invokevirtual 163, 3) := by decide +kernel
theorem dX7_sleepUnmet_45 : decode cX7_sleepUnmet 45 = .ok (.ifCond .eq 7, 3) := by decide +kernel
theorem dX7_sleepUnmet_48 : decode cX7_sleepUnmet 48 = .ok (.iconst 1, 1) := by decide +kernel
theorem dX7_sleepUnmet_49 : decode cX7_sleepUnmet 49 = .ok (.goto 4, 3) := by decide +kernel
theorem dX7_sleepUnmet_52 : decode cX7_sleepUnmet 52 = .ok (.iconst 0, 1) := by decide +kernel
theorem dX7_sleepUnmet_53 : decode cX7_sleepUnmet 53 = .ok (.ireturn, 1) := by decide +kernel
theorem dX7_access_0 : decode cX7_access 0 = .ok (.aload_n 0, 1) := by decide +kernel
theorem dX7_access_1 : decode cX7_access 1 = .ok (.dup, 1) := by decide +kernel
theorem dX7_access_2 : decode cX7_access 2 = .ok (.getfield 147, 3) := by decide +kernel
theorem dX7_access_5 : decode cX7_access 5 = .ok (.iconst 1, 1) := by decide +kernel
theorem dX7_access_6 : decode cX7_access 6 = .ok (.iadd, 1) := by decide +kernel
theorem dX7_access_7 : decode cX7_access 7 = .ok (.putfield 147, 3) := by decide +kernel
theorem dX7_access_10 : decode cX7_access 10 = .ok (.aload_n 1, 1) := by decide +kernel
theorem dX7_access_11 : decode cX7_access 11 = .ok (.aload_n 0, 1) := by decide +kernel
theorem dX7_access_12 : decode cX7_access 12 = .ok (.getfield 72, 3) := by decide +kernel
theorem dX7_access_15 : decode cX7_access 15 = .ok (.invokevirtual 167, 3) := by decide +kernel
theorem dX7_access_18 : decode cX7_access 18 = .ok (.ifCond .eq 16, 3) := by decide +kernel
theorem dX7_access_21 : decode cX7_access 21 = .ok (.aload_n 1, 1) := by decide +kernel
theorem dX7_access_22 : decode cX7_access 22 = .ok (.invokevirtual 171, 3) := by decide +kernel
theorem dX7_access_25 : decode cX7_access 25 = .ok (.ifCond .eq 9, 3) := by decide +kernel
theorem dX7_access_28 : decode cX7_access 28 = .ok (.aload_n 0, 1) := by decide +kernel
theorem dX7_access_29 : decode cX7_access 29 = .ok (.aload_n 1, 1) := by decide +kernel
theorem dX7_access_30 : decode cX7_access 30 = .ok (.invokevirtual 174, 3) := by decide +kernel
theorem dX7_access_33 : decode cX7_access 33 = .ok (.return_, 1) := by decide +kernel
theorem dX7_access_34 : decode cX7_access 34 = .ok (.aload_n 1, 1) := by decide +kernel
theorem dX7_access_35 : decode cX7_access 35 = .ok (.getfield 48, 3) := by decide +kernel
theorem dX7_access_38 : decode cX7_access 38 = .ok (.tableswitch 92 2 11 #[54, 62, 92, 92, 92, 92, 92, 70, 77, 84], 54) := by decide +kernel
theorem dX7_access_92 : decode cX7_access 92 = .ok (.aload_n 0, 1) := by decide +kernel
theorem dX7_access_93 : decode cX7_access 93 = .ok (.aload_n 1, 1) := by decide +kernel
theorem dX7_access_94 : decode cX7_access 94 = .ok (.invokevirtual 177, 3) := by decide +kernel
theorem dX7_access_97 : decode cX7_access 97 = .ok (.goto 38, 3) := by decide +kernel
theorem dX7_access_100 : decode cX7_access 100 = .ok (.aload_n 0, 1) := by decide +kernel
theorem dX7_access_101 : decode cX7_access 101 = .ok (.aload_n 1, 1) := by decide +kernel
theorem dX7_access_102 : decode cX7_access 102 = .ok (.invokevirtual 180, 3) := by decide +kernel
theorem dX7_access_105 : decode cX7_access 105 = .ok (.goto 30, 3) := by decide +kernel
theorem dX7_access_108 : decode cX7_access 108 = .ok (.aload_n 1, 1) := by decide +kernel
theorem dX7_access_109 : decode cX7_access 109 = .ok (.invokevirtual 183, 3) := by decide +kernel
theorem dX7_access_112 : decode cX7_access 112 = .ok (.goto 23, 3) := by decide +kernel
theorem dX7_access_115 : decode cX7_access 115 = .ok (.aload_n 1, 1) := by decide +kernel
theorem dX7_access_116 : decode cX7_access 116 = .ok (.invokevirtual 186, 3) := by decide +kernel
theorem dX7_access_119 : decode cX7_access 119 = .ok (.goto 16, 3) := by decide +kernel
theorem dX7_access_122 : decode cX7_access 122 = .ok (.aload_n 0, 1) := by decide +kernel
theorem dX7_access_123 : decode cX7_access 123 = .ok (.aload_n 1, 1) := by decide +kernel
theorem dX7_access_124 : decode cX7_access 124 = .ok (.invokevirtual 189, 3) := by decide +kernel
theorem dX7_access_127 : decode cX7_access 127 = .ok (.goto 8, 3) := by decide +kernel
theorem dX7_access_130 : decode cX7_access 130 = .ok (.aload_n 0, 1) := by decide +kernel
theorem dX7_access_131 : decode cX7_access 131 = .ok (.aload_n 1, 1) := by decide +kernel
theorem dX7_access_132 : decode cX7_access 132 = .ok (.invokevirtual 192, 3) := by decide +kernel
theorem dX7_access_135 : decode cX7_access 135 = .ok (.return_, 1) := by decide +kernel
theorem dX7_accessToMeet_0 : decode cX7_accessToMeet 0 = .ok (.aload_n 1, 1) := by decide +kernel
theorem dX7_accessToMeet_1 : decode cX7_accessToMeet 1 = .ok (.invokevirtual 195, 3) := by decide +kernel
theorem dX7_accessToMeet_4 : decode cX7_accessToMeet 4 = .ok (.astore_n 2, 1) := by decide +kernel
theorem dX7_accessToMeet_5 : decode cX7_accessToMeet 5 = .ok (.aload_n 1, 1) := by decide +kernel
theorem dX7_accessToMeet_6 : decode cX7_accessToMeet 6 = .ok (.getfield 199, 3) := by decide +kernel
theorem dX7_accessToMeet_9 : decode cX7_accessToMeet 9 = .ok (.astore_n 3, 1) := by decide +kernel
theorem dX7_accessToMeet_10 : decode cX7_accessToMeet 10 = .ok (.aload_n 3, 1) := by decide +kernel
theorem dX7_accessToMeet_11 : decode cX7_accessToMeet 11 = .ok (.ifnonnull 7, 3) := by decide +kernel
theorem dX7_accessToMeet_14 : decode cX7_accessToMeet 14 = .ok (.aconst_null, 1) := by decide +kernel
theorem dX7_accessToMeet_15 : decode cX7_accessToMeet 15 = .ok (.goto 11, 3) := by decide +kernel
theorem dX7_accessToMeet_18 : decode cX7_accessToMeet 18 = .ok (.aload_n 0, 1) := by decide +kernel
theorem dX7_accessToMeet_19 : decode cX7_accessToMeet 19 = .ok (.aload_n 3, 1) := by decide +kernel
theorem dX7_accessToMeet_20 : decode cX7_accessToMeet 20 = .ok (.getfield 203, 3) := by decide +kernel
theorem dX7_accessToMeet_23 : decode cX7_accessToMeet 23 = .ok (.invokevirtual 78, 3) := by decide +kernel
theorem dX7_accessToMeet_26 : decode cX7_accessToMeet 26 = .ok (.astore 4, 2) := by decide +kernel
theorem dX7_accessToMeet_28 : decode cX7_accessToMeet 28 = .ok (.aload_n 2, 1) := by decide +kernel
theorem dX7_accessToMeet_29 : decode cX7_accessToMeet 29 = .ok (.ifnull 8, 3) := by decide +kernel
theorem dX7_accessToMeet_32 : decode cX7_accessToMeet 32 = .ok (.aload 4, 2) := by decide +kernel
theorem dX7_accessToMeet_34 : decode cX7_accessToMeet 34 = .ok (.ifnonnull 4, 3) := by decide +kernel
theorem dX7_accessToMeet_37 : decode cX7_accessToMeet 37 = .ok (.return_, 1) := by decide +kernel
theorem dX7_accessToMeet_38 : decode cX7_accessToMeet 38 = .ok (.aload_n 1, 1) := by decide +kernel
theorem dX7_accessToMeet_39 : decode cX7_accessToMeet 39 = .ok (.getfield 48, 3) := by decide +kernel
theorem dX7_accessToMeet_42 : decode cX7_accessToMeet 42 = .ok (.tableswitch 88 4 8 #[34, 45, 57, 67, 78], 34) := by decide +kernel
theorem dX7_accessToMeet_76 : decode cX7_accessToMeet 76 = .ok (.aload_n 0, 1) := by decide +kernel
theorem dX7_accessToMeet_77 : decode cX7_accessToMeet 77 = .ok (.aload_n 1, 1) := by decide +kernel
theorem dX7_accessToMeet_78 : decode cX7_accessToMeet 78 = .ok (.aload 4, 2) := by decide +kernel
theorem dX7_accessToMeet_80 : decode cX7_accessToMeet 80 = .ok (.aload_n 3, 1) := by decide +kernel
theorem dX7_accessToMeet_81 : decode cX7_accessToMeet 81 = .ok (.invokevirtual 206, 3) := by decide +kernel
theorem dX7_accessToMeet_84 : decode cX7_accessToMeet 84 = .ok (.goto 46, 3) := by decide +kernel
theorem dX7_accessToMeet_87 : decode cX7_accessToMeet 87 = .ok (.aload_n 0, 1) := by decide +kernel
theorem dX7_accessToMeet_88 : decode cX7_accessToMeet 88 = .ok (.aload_n 1, 1) := by decide +kernel
theorem dX7_accessToMeet_89 : decode cX7_accessToMeet 89 = .ok (.aload 4, 2) := by decide +kernel
theorem dX7_accessToMeet_91 : decode cX7_accessToMeet 91 = .ok (.aload_n 3, 1) := by decide +kernel
theorem dX7_accessToMeet_92 : decode cX7_accessToMeet 92 = .ok (.aload_n 2, 1) := by decide +kernel
theorem dX7_accessToMeet_93 : decode cX7_accessToMeet 93 = .ok (.invokevirtual 210, 3) := by decide +kernel
theorem dX7_accessToMeet_96 : decode cX7_accessToMeet 96 = .ok (.goto 34, 3) := by decide +kernel
theorem dX7_accessToMeet_99 : decode cX7_accessToMeet 99 = .ok (.aload_n 0, 1) := by decide +kernel
theorem dX7_accessToMeet_100 : decode cX7_accessToMeet 100 = .ok (.aload_n 1, 1) := by decide +kernel
theorem dX7_accessToMeet_101 : decode cX7_accessToMeet 101 = .ok (.aload 4, 2) := by decide +kernel
theorem dX7_accessToMeet_103 : decode cX7_accessToMeet 103 = .ok (.invokevirtual 214, 3) := by decide +kernel
theorem dX7_accessToMeet_106 : decode cX7_accessToMeet 106 = .ok (.goto 24, 3) := by decide +kernel
theorem dX7_accessToMeet_109 : decode cX7_accessToMeet 109 = .ok (.aload_n 0, 1) := by decide +kernel
theorem dX7_accessToMeet_110 : decode cX7_accessToMeet 110 = .ok (.aload_n 1, 1) := by decide +kernel
theorem dX7_accessToMeet_111 : decode cX7_accessToMeet 111 = .ok (.aload 4, 2) := by decide +kernel
theorem dX7_accessToMeet_113 : decode cX7_accessToMeet 113 = .ok (.aload_n 2, 1) := by decide +kernel
theorem dX7_accessToMeet_114 : decode cX7_accessToMeet 114 = .ok (.invokevirtual 218, 3) := by decide +kernel
theorem dX7_accessToMeet_117 : decode cX7_accessToMeet 117 = .ok (.goto 13, 3) := by decide +kernel
theorem dX7_accessToMeet_120 : decode cX7_accessToMeet 120 = .ok (.aload_n 0, 1) := by decide +kernel
theorem dX7_accessToMeet_121 : decode cX7_accessToMeet 121 = .ok (.aload_n 1, 1) := by decide +kernel
theorem dX7_accessToMeet_122 : decode cX7_accessToMeet 122 = .ok (.aload_n 3, 1) := by decide +kernel
theorem dX7_accessToMeet_123 : decode cX7_accessToMeet 123 = .ok (.aload_n 2, 1) := by decide +kernel
theorem dX7_accessToMeet_124 : decode cX7_accessToMeet 124 = .ok (.invokevirtual 222, 3) := by decide +kernel
theorem dX7_accessToMeet_127 : decode cX7_accessToMeet 127 = .ok (.goto 3, 3) := by decide +kernel
theorem dX7_accessToMeet_130 : decode cX7_accessToMeet 130 = .ok (.return_, 1) := by decide +kernel
theorem dX7_runOutOfTime_0 : decode cX7_runOutOfTime 0 = .ok (.aload_n 1, 1) := by decide +kernel
theorem dX7_runOutOfTime_1 : decode cX7_runOutOfTime 1 = .ok (.getfield 63, 3) := by decide +kernel
theorem dX7_runOutOfTime_4 : decode cX7_runOutOfTime 4 = .ok (.getfield 94, 3) := by decide +kernel
theorem dX7_runOutOfTime_7 : decode cX7_runOutOfTime 7 = .ok (.iconst 1, 1) := by decide +kernel
theorem dX7_runOutOfTime_8 : decode cX7_runOutOfTime 8 = .ok (.if_icmp .ne 16, 3) := by decide +kernel
theorem dX7_runOutOfTime_11 : decode cX7_runOutOfTime 11 = .ok (.aload_n 0, 1) := by decide +kernel
theorem dX7_runOutOfTime_12 : decode cX7_runOutOfTime 12 = .ok (.aload_n 1, 1) := by decide +kernel
theorem dX7_runOutOfTime_13 : decode cX7_runOutOfTime 13 = .ok (.iconst 3, 1) := by decide +kernel
theorem dX7_runOutOfTime_14 : decode cX7_runOutOfTime 14 = .ok (.invokevirtual 97, 3) := by decide +kernel
theorem dX7_runOutOfTime_17 : decode cX7_runOutOfTime 17 = .ok (.aload_n 1, 1) := by decide +kernel
theorem dX7_runOutOfTime_18 : decode cX7_runOutOfTime 18 = .ok (.invokevirtual 104, 3) := by decide +kernel
theorem dX7_runOutOfTime_21 : decode cX7_runOutOfTime 21 = .ok (.goto 18, 3) := by decide +kernel
theorem dX7_runOutOfTime_24 : decode cX7_runOutOfTime 24 = .ok (.aload_n 1, 1) := by decide +kernel
theorem dX7_runOutOfTime_25 : decode cX7_runOutOfTime 25 = .ok (.getfield 63, 3) := by decide +kernel
theorem dX7_runOutOfTime_28 : decode cX7_runOutOfTime 28 = .ok (.getfield 94, 3) := by decide +kernel
theorem dX7_runOutOfTime_31 : decode cX7_runOutOfTime 31 = .ok (.iconst 3, 1) := by decide +kernel
theorem dX7_runOutOfTime_32 : decode cX7_runOutOfTime 32 = .ok (.if_icmp .ne 7, 3) := by decide +kernel
theorem dX7_runOutOfTime_35 : decode cX7_runOutOfTime 35 = .ok (.aload_n 1, 1) := by decide +kernel
theorem dX7_runOutOfTime_36 : decode cX7_runOutOfTime 36 = .ok (.invokevirtual 104, 3) := by decide +kernel
theorem dX7_runOutOfTime_39 : decode cX7_runOutOfTime 39 = .ok (.return_, 1) := by decide +kernel
theorem dX7_putOut_0 : decode cX7_putOut 0 = .ok (.aload_n 1, 1) := by decide +kernel
theorem dX7_putOut_1 : decode cX7_putOut 1 = .ok (.getfield 63, 3) := by decide +kernel
theorem dX7_putOut_4 : decode cX7_putOut 4 = .ok (.iconst 4, 1) := by decide +kernel
theorem dX7_putOut_5 : decode cX7_putOut 5 = .ok (.invokevirtual 107, 3) := by decide +kernel
theorem dX7_putOut_8 : decode cX7_putOut 8 = .ok (.aload_n 1, 1) := by decide +kernel
theorem dX7_putOut_9 : decode cX7_putOut 9 = .ok (.iload_n 2, 1) := by decide +kernel
theorem dX7_putOut_10 : decode cX7_putOut 10 = .ok (.putfield 226, 3) := by decide +kernel
theorem dX7_putOut_13 : decode cX7_putOut 13 = .ok (.aload_n 1, 1) := by decide +kernel
theorem dX7_putOut_14 : decode cX7_putOut 14 = .ok (.iconst 1, 1) := by decide +kernel
theorem dX7_putOut_15 : decode cX7_putOut 15 = .ok (.putfield 229, 3) := by decide +kernel
theorem dX7_putOut_18 : decode cX7_putOut 18 = .ok (.aload_n 0, 1) := by decide +kernel
theorem dX7_putOut_19 : decode cX7_putOut 19 = .ok (.aload_n 1, 1) := by decide +kernel
theorem dX7_putOut_20 : decode cX7_putOut 20 = .ok (.invokevirtual 233, 3) := by decide +kernel
theorem dX7_putOut_23 : decode cX7_putOut 23 = .ok (.return_, 1) := by decide +kernel
theorem dX7_publishEntry_0 : decode cX7_publishEntry 0 = .ok (.aload_n 1, 1) := by decide +kernel
theorem dX7_publishEntry_1 : decode cX7_publishEntry 1 = .ok (.invokevirtual 195, 3) := by decide +kernel
theorem dX7_publishEntry_4 : decode cX7_publishEntry 4 = .ok (.astore_n 2, 1) := by decide +kernel
theorem dX7_publishEntry_5 : decode cX7_publishEntry 5 = .ok (.aload_n 2, 1) := by decide +kernel
theorem dX7_publishEntry_6 : decode cX7_publishEntry 6 = .ok (.ifnonnull 7, 3) := by decide +kernel
theorem dX7_publishEntry_9 : decode cX7_publishEntry 9 = .ok (.aconst_null, 1) := by decide +kernel
theorem dX7_publishEntry_10 : decode cX7_publishEntry 10 = .ok (.goto 11, 3) := by decide +kernel
theorem dX7_publishEntry_13 : decode cX7_publishEntry 13 = .ok (.aload_n 0, 1) := by decide +kernel
theorem dX7_publishEntry_14 : decode cX7_publishEntry 14 = .ok (.aload_n 2, 1) := by decide +kernel
theorem dX7_publishEntry_15 : decode cX7_publishEntry 15 = .ok (.getfield 236, 3) := by decide +kernel
theorem dX7_publishEntry_18 : decode cX7_publishEntry 18 = .ok (.invokevirtual 52, 3) := by decide +kernel
theorem dX7_publishEntry_21 : decode cX7_publishEntry 21 = .ok (.astore_n 3, 1) := by decide +kernel
theorem dX7_publishEntry_22 : decode cX7_publishEntry 22 = .ok (.aload_n 2, 1) := by decide +kernel
theorem dX7_publishEntry_23 : decode cX7_publishEntry 23 = .ok (.ifnull 54, 3) := by decide +kernel
theorem dX7_publishEntry_26 : decode cX7_publishEntry 26 = .ok (.aload_n 3, 1) := by decide +kernel
theorem dX7_publishEntry_27 : decode cX7_publishEntry 27 = .ok (.ifnull 50, 3) := by decide +kernel
theorem dX7_publishEntry_30 : decode cX7_publishEntry 30 = .ok (.aload_n 0, 1) := by decide +kernel
theorem dX7_publishEntry_31 : decode cX7_publishEntry 31 = .ok (.dup, 1) := by decide +kernel
theorem dX7_publishEntry_32 : decode cX7_publishEntry 32 = .ok (.getfield 153, 3) := by decide +kernel
theorem dX7_publishEntry_35 : decode cX7_publishEntry 35 = .ok (.iconst 1, 1) := by decide +kernel
theorem dX7_publishEntry_36 : decode cX7_publishEntry 36 = .ok (.iadd, 1) := by decide +kernel
theorem dX7_publishEntry_37 : decode cX7_publishEntry 37 = .ok (.putfield 153, 3) := by decide +kernel
theorem dX7_publishEntry_40 : decode cX7_publishEntry 40 = .ok (.new 130, 3) := by decide +kernel
theorem dX7_publishEntry_43 : decode cX7_publishEntry 43 = .ok (.dup, 1) := by decide +kernel
theorem dX7_publishEntry_44 : decode cX7_publishEntry 44 = .ok (.aload_n 1, 1) := by decide +kernel
theorem dX7_publishEntry_45 : decode cX7_publishEntry 45 = .ok (.getfield 241, 3) := by decide +kernel
theorem dX7_publishEntry_48 : decode cX7_publishEntry 48 = .ok (.aload_n 1, 1) := by decide +kernel
theorem dX7_publishEntry_49 : decode cX7_publishEntry 49 = .ok (.getfield 63, 3) := by decide +kernel
theorem dX7_publishEntry_52 : decode cX7_publishEntry 52 = .ok (.getfield 67, 3) := by decide +kernel
theorem dX7_publishEntry_55 : decode cX7_publishEntry 55 = .ok (.aload_n 2, 1) := by decide +kernel
theorem dX7_publishEntry_56 : decode cX7_publishEntry 56 = .ok (.aload_n 0, 1) := by decide +kernel
theorem dX7_publishEntry_57 : decode cX7_publishEntry 57 = .ok (.getfield 153, 3) := by decide +kernel
theorem dX7_publishEntry_60 : decode cX7_publishEntry 60 = .ok (.invokespecial 244, 3) := by decide +kernel
theorem dX7_publishEntry_63 : decode cX7_publishEntry 63 = .ok (.astore 4, 2) := by decide +kernel
theorem dX7_publishEntry_65 : decode cX7_publishEntry 65 = .ok (.aload_n 3, 1) := by decide +kernel
theorem dX7_publishEntry_66 : decode cX7_publishEntry 66 = .ok (.aload 4, 2) := by decide +kernel
theorem dX7_publishEntry_68 : decode cX7_publishEntry 68 = .ok (.invokevirtual 247, 3) := by decide +kernel
theorem dX7_publishEntry_71 : decode cX7_publishEntry 71 = .ok (.aload_n 1, 1) := by decide +kernel
theorem dX7_publishEntry_72 : decode cX7_publishEntry 72 = .ok (.aload 4, 2) := by decide +kernel
theorem dX7_publishEntry_74 : decode cX7_publishEntry 74 = .ok (.invokevirtual 251, 3) := by decide +kernel
theorem dX7_publishEntry_77 : decode cX7_publishEntry 77 = .ok (.aload_n 1, 1) := by decide +kernel
theorem dX7_publishEntry_78 : decode cX7_publishEntry 78 = .ok (.aload_n 1, 1) := by decide +kernel
theorem dX7_publishEntry_79 : decode cX7_publishEntry 79 = .ok (.getfield 254, 3) := by decide +kernel
theorem dX7_publishEntry_82 : decode cX7_publishEntry 82 = .ok (.iconst 1, 1) := by decide +kernel
theorem dX7_publishEntry_83 : decode cX7_publishEntry 83 = .ok (.iadd, 1) := by decide +kernel
theorem dX7_publishEntry_84 : decode cX7_publishEntry 84 = .ok (.invokevirtual 256, 3) := by decide +kernel
theorem dX7_publishEntry_87 : decode cX7_publishEntry 87 = .ok (.istore 4, 2) := by decide +kernel
theorem dX7_publishEntry_89 : decode cX7_publishEntry 89 = .ok (.iload 4, 2) := by decide +kernel
theorem dX7_publishEntry_91 : decode cX7_publishEntry 91 = .ok (.iconst (-1), 1) := by decide +kernel
theorem dX7_publishEntry_92 : decode cX7_publishEntry 92 = .ok (.if_icmp .ne 10, 3) := by decide +kernel
theorem dX7_publishEntry_95 : decode cX7_publishEntry 95 = .ok (.aload_n 1, 1) := by decide +kernel
theorem dX7_publishEntry_96 : decode cX7_publishEntry 96 = .ok (.invokevirtual 259, 3) := by decide +kernel
theorem dX7_publishEntry_99 : decode cX7_publishEntry 99 = .ok (.goto 9, 3) := by decide +kernel
theorem dX7_publishEntry_102 : decode cX7_publishEntry 102 = .ok (.aload_n 1, 1) := by decide +kernel
theorem dX7_publishEntry_103 : decode cX7_publishEntry 103 = .ok (.iload 4, 2) := by decide +kernel
theorem dX7_publishEntry_105 : decode cX7_publishEntry 105 = .ok (.putfield 254, 3) := by decide +kernel
theorem dX7_publishEntry_108 : decode cX7_publishEntry 108 = .ok (.return_, 1) := by decide +kernel
theorem dX7_lookOn_0 : decode cX7_lookOn 0 = .ok (.aload_n 1, 1) := by decide +kernel
theorem dX7_lookOn_1 : decode cX7_lookOn 1 = .ok (.invokevirtual 195, 3) := by decide +kernel
theorem dX7_lookOn_4 : decode cX7_lookOn 4 = .ok (.astore_n 2, 1) := by decide +kernel
theorem dX7_lookOn_5 : decode cX7_lookOn 5 = .ok (.aload_n 2, 1) := by decide +kernel
theorem dX7_lookOn_6 : decode cX7_lookOn 6 = .ok (.ifnonnull 7, 3) := by decide +kernel
theorem dX7_lookOn_9 : decode cX7_lookOn 9 = .ok (.aconst_null, 1) := by decide +kernel
theorem dX7_lookOn_10 : decode cX7_lookOn 10 = .ok (.goto 11, 3) := by decide +kernel
theorem dX7_lookOn_13 : decode cX7_lookOn 13 = .ok (.aload_n 0, 1) := by decide +kernel
theorem dX7_lookOn_14 : decode cX7_lookOn 14 = .ok (.aload_n 2, 1) := by decide +kernel
theorem dX7_lookOn_15 : decode cX7_lookOn 15 = .ok (.getfield 236, 3) := by decide +kernel
theorem dX7_lookOn_18 : decode cX7_lookOn 18 = .ok (.invokevirtual 52, 3) := by decide +kernel
theorem dX7_lookOn_21 : decode cX7_lookOn 21 = .ok (.astore_n 3, 1) := by decide +kernel
theorem dX7_lookOn_22 : decode cX7_lookOn 22 = .ok (.aload_n 3, 1) := by decide +kernel
theorem dX7_lookOn_23 : decode cX7_lookOn 23 = .ok (.ifnonnull 7, 3) := by decide +kernel
theorem dX7_lookOn_26 : decode cX7_lookOn 26 = .ok (.aconst_null, 1) := by decide +kernel
theorem dX7_lookOn_27 : decode cX7_lookOn 27 = .ok (.goto 11, 3) := by decide +kernel
theorem dX7_lookOn_30 : decode cX7_lookOn 30 = .ok (.aload_n 3, 1) := by decide +kernel
theorem dX7_lookOn_31 : decode cX7_lookOn 31 = .ok (.aload_n 1, 1) := by decide +kernel
theorem dX7_lookOn_32 : decode cX7_lookOn 32 = .ok (.getfield 262, 3) := by decide +kernel
theorem dX7_lookOn_35 : decode cX7_lookOn 35 = .ok (.invokevirtual 265, 3) := by decide +kernel
theorem dX7_lookOn_38 : decode cX7_lookOn 38 = .ok (.astore 4, 2) := by decide +kernel
theorem dX7_lookOn_40 : decode cX7_lookOn 40 = .ok (.aload_n 2, 1) := by decide +kernel
theorem dX7_lookOn_41 : decode cX7_lookOn 41 = .ok (.ifnull 8, 3) := by decide +kernel
theorem dX7_lookOn_44 : decode cX7_lookOn 44 = .ok (.aload 4, 2) := by decide +kernel
theorem dX7_lookOn_46 : decode cX7_lookOn 46 = .ok (.ifnonnull 8, 3) := by decide +kernel
theorem dX7_lookOn_49 : decode cX7_lookOn 49 = .ok (.aload_n 1, 1) := by decide +kernel
theorem dX7_lookOn_50 : decode cX7_lookOn 50 = .ok (.invokevirtual 268, 3) := by decide +kernel
theorem dX7_lookOn_53 : decode cX7_lookOn 53 = .ok (.return_, 1) := by decide +kernel
theorem dX7_lookOn_54 : decode cX7_lookOn 54 = .ok (.aload_n 1, 1) := by decide +kernel
theorem dX7_lookOn_55 : decode cX7_lookOn 55 = .ok (.aload 4, 2) := by decide +kernel
theorem dX7_lookOn_57 : decode cX7_lookOn 57 = .ok (.getfield 271, 3) := by decide +kernel
theorem dX7_lookOn_60 : decode cX7_lookOn 60 = .ok (.putfield 262, 3) := by decide +kernel
theorem dX7_lookOn_63 : decode cX7_lookOn 63 = .ok (.aload 4, 2) := by decide +kernel
theorem dX7_lookOn_65 : decode cX7_lookOn 65 = .ok (.getfield 203, 3) := by decide +kernel
theorem dX7_lookOn_68 : decode cX7_lookOn 68 = .ok (.aload_n 1, 1) := by decide +kernel
theorem dX7_lookOn_69 : decode cX7_lookOn 69 = .ok (.getfield 241, 3) := by decide +kernel
theorem dX7_lookOn_72 : decode cX7_lookOn 72 = .ok (.if_icmp .eq 26, 3) := by decide +kernel
theorem dX7_lookOn_75 : decode cX7_lookOn 75 = .ok (.aload 4, 2) := by decide +kernel
theorem dX7_lookOn_77 : decode cX7_lookOn 77 = .ok (.getfield 272, 3) := by decide +kernel
theorem dX7_lookOn_80 : decode cX7_lookOn 80 = .ok (.aload_n 2, 1) := by decide +kernel
theorem dX7_lookOn_81 : decode cX7_lookOn 81 = .ok (.getfield 273, 3) := by decide +kernel
theorem dX7_lookOn_84 : decode cX7_lookOn 84 = .ok (.if_icmp .eq 14, 3) := by decide +kernel
theorem dX7_lookOn_87 : decode cX7_lookOn 87 = .ok (.aload_n 1, 1) := by decide +kernel
theorem dX7_lookOn_88 : decode cX7_lookOn 88 = .ok (.aload 4, 2) := by decide +kernel
theorem dX7_lookOn_90 : decode cX7_lookOn 90 = .ok (.putfield 199, 3) := by decide +kernel
theorem dX7_lookOn_93 : decode cX7_lookOn 93 = .ok (.aload_n 1, 1) := by decide +kernel
theorem dX7_lookOn_94 : decode cX7_lookOn 94 = .ok (.iconst 4, 1) := by decide +kernel
theorem dX7_lookOn_95 : decode cX7_lookOn 95 = .ok (.putfield 48, 3) := by decide +kernel
theorem dX7_lookOn_98 : decode cX7_lookOn 98 = .ok (.return_, 1) := by decide +kernel
theorem dX7_claimLower_0 : decode cX7_claimLower 0 = .ok (.aload_n 1, 1) := by decide +kernel
theorem dX7_claimLower_1 : decode cX7_claimLower 1 = .ok (.getfield 241, 3) := by decide +kernel
theorem dX7_claimLower_4 : decode cX7_claimLower 4 = .ok (.aload_n 2, 1) := by decide +kernel
theorem dX7_claimLower_5 : decode cX7_claimLower 5 = .ok (.getfield 241, 3) := by decide +kernel
theorem dX7_claimLower_8 : decode cX7_claimLower 8 = .ok (.if_icmp .ge 7, 3) := by decide +kernel
theorem dX7_claimLower_11 : decode cX7_claimLower 11 = .ok (.aload_n 1, 1) := by decide +kernel
theorem dX7_claimLower_12 : decode cX7_claimLower 12 = .ok (.goto 4, 3) := by decide +kernel
theorem dX7_claimLower_15 : decode cX7_claimLower 15 = .ok (.aload_n 2, 1) := by decide +kernel
theorem dX7_claimLower_16 : decode cX7_claimLower 16 = .ok (.astore 4, 2) := by decide +kernel
theorem dX7_claimLower_18 : decode cX7_claimLower 18 = .ok (.aload_n 0, 1) := by decide +kernel
theorem dX7_claimLower_19 : decode cX7_claimLower 19 = .ok (.aload_n 1, 1) := by decide +kernel
theorem dX7_claimLower_20 : decode cX7_claimLower 20 = .ok (.aload 4, 2) := by decide +kernel
theorem dX7_claimLower_22 : decode cX7_claimLower 22 = .ok (.aload_n 3, 1) := by decide +kernel
theorem dX7_claimLower_23 : decode cX7_claimLower 23 = .ok (.invokevirtual 274, 3) := by decide +kernel
theorem dX7_claimLower_26 : decode cX7_claimLower 26 = .ok (.ifCond .eq 11, 3) := by decide +kernel
theorem dX7_claimLower_29 : decode cX7_claimLower 29 = .ok (.aload_n 1, 1) := by decide +kernel
theorem dX7_claimLower_30 : decode cX7_claimLower 30 = .ok (.iconst 5, 1) := by decide +kernel
theorem dX7_claimLower_31 : decode cX7_claimLower 31 = .ok (.putfield 48, 3) := by decide +kernel
theorem dX7_claimLower_34 : decode cX7_claimLower 34 = .ok (.goto 38, 3) := by decide +kernel
theorem dX7_claimLower_37 : decode cX7_claimLower 37 = .ok (.aload 4, 2) := by decide +kernel
theorem dX7_claimLower_39 : decode cX7_claimLower 39 = .ok (.aload_n 1, 1) := by decide +kernel
theorem dX7_claimLower_40 : decode cX7_claimLower 40 = .ok (.if_acmp .ne 20, 3) := by decide +kernel
theorem dX7_claimLower_43 : decode cX7_claimLower 43 = .ok (.aload_n 1, 1) := by decide +kernel
theorem dX7_claimLower_44 : decode cX7_claimLower 44 = .ok (.getfield 63, 3) := by decide +kernel
theorem dX7_claimLower_47 : decode cX7_claimLower 47 = .ok (.invokevirtual 278, 3) := by decide +kernel
theorem dX7_claimLower_50 : decode cX7_claimLower 50 = .ok (.ifCond .eq 10, 3) := by decide +kernel
theorem dX7_claimLower_53 : decode cX7_claimLower 53 = .ok (.aload_n 1, 1) := by decide +kernel
theorem dX7_claimLower_54 : decode cX7_claimLower 54 = .ok (.invokevirtual 104, 3) := by decide +kernel
theorem dX7_claimLower_57 : decode cX7_claimLower 57 = .ok (.goto 15, 3) := by decide +kernel
theorem dX7_claimLower_60 : decode cX7_claimLower 60 = .ok (.aload_n 1, 1) := by decide +kernel
theorem dX7_claimLower_61 : decode cX7_claimLower 61 = .ok (.aload 4, 2) := by decide +kernel
theorem dX7_claimLower_63 : decode cX7_claimLower 63 = .ok (.aload_n 3, 1) := by decide +kernel
theorem dX7_claimLower_64 : decode cX7_claimLower 64 = .ok (.invokestatic 281, 3) := by decide +kernel
theorem dX7_claimLower_67 : decode cX7_claimLower 67 = .ok (.aload_n 1, 1) := by decide +kernel
theorem dX7_claimLower_68 : decode cX7_claimLower 68 = .ok (.iconst 3, 1) := by decide +kernel
theorem dX7_claimLower_69 : decode cX7_claimLower 69 = .ok (.putfield 48, 3) := by decide +kernel
theorem dX7_claimLower_72 : decode cX7_claimLower 72 = .ok (.return_, 1) := by decide +kernel
theorem dX7_claimHigher_0 : decode cX7_claimHigher 0 = .ok (.aload_n 1, 1) := by decide +kernel
theorem dX7_claimHigher_1 : decode cX7_claimHigher 1 = .ok (.getfield 241, 3) := by decide +kernel
theorem dX7_claimHigher_4 : decode cX7_claimHigher 4 = .ok (.aload_n 2, 1) := by decide +kernel
theorem dX7_claimHigher_5 : decode cX7_claimHigher 5 = .ok (.getfield 241, 3) := by decide +kernel
theorem dX7_claimHigher_8 : decode cX7_claimHigher 8 = .ok (.if_icmp .ge 7, 3) := by decide +kernel
theorem dX7_claimHigher_11 : decode cX7_claimHigher 11 = .ok (.aload_n 2, 1) := by decide +kernel
theorem dX7_claimHigher_12 : decode cX7_claimHigher 12 = .ok (.goto 4, 3) := by decide +kernel
theorem dX7_claimHigher_15 : decode cX7_claimHigher 15 = .ok (.aload_n 1, 1) := by decide +kernel
theorem dX7_claimHigher_16 : decode cX7_claimHigher 16 = .ok (.astore 5, 2) := by decide +kernel
theorem dX7_claimHigher_18 : decode cX7_claimHigher 18 = .ok (.aload_n 0, 1) := by decide +kernel
theorem dX7_claimHigher_19 : decode cX7_claimHigher 19 = .ok (.aload_n 1, 1) := by decide +kernel
theorem dX7_claimHigher_20 : decode cX7_claimHigher 20 = .ok (.aload 5, 2) := by decide +kernel
theorem dX7_claimHigher_22 : decode cX7_claimHigher 22 = .ok (.aload_n 3, 1) := by decide +kernel
theorem dX7_claimHigher_23 : decode cX7_claimHigher 23 = .ok (.invokevirtual 274, 3) := by decide +kernel
theorem dX7_claimHigher_26 : decode cX7_claimHigher 26 = .ok (.ifCond .eq 19, 3) := by decide +kernel
theorem dX7_claimHigher_29 : decode cX7_claimHigher 29 = .ok (.aload_n 0, 1) := by decide +kernel
theorem dX7_claimHigher_30 : decode cX7_claimHigher 30 = .ok (.aload_n 1, 1) := by decide +kernel
theorem dX7_claimHigher_31 : decode cX7_claimHigher 31 = .ok (.aload_n 2, 1) := by decide +kernel
theorem dX7_claimHigher_32 : decode cX7_claimHigher 32 = .ok (.aload_n 3, 1) := by decide +kernel
theorem dX7_claimHigher_33 : decode cX7_claimHigher 33 = .ok (.aload 4, 2) := by decide +kernel
theorem dX7_claimHigher_35 : decode cX7_claimHigher 35 = .ok (.invokevirtual 284, 3) := by decide +kernel
theorem dX7_claimHigher_38 : decode cX7_claimHigher 38 = .ok (.aload_n 1, 1) := by decide +kernel
theorem dX7_claimHigher_39 : decode cX7_claimHigher 39 = .ok (.bipush 7, 2) := by decide +kernel
theorem dX7_claimHigher_41 : decode cX7_claimHigher 41 = .ok (.putfield 48, 3) := by decide +kernel
theorem dX7_claimHigher_44 : decode cX7_claimHigher 44 = .ok (.return_, 1) := by decide +kernel
theorem dX7_claimHigher_45 : decode cX7_claimHigher 45 = .ok (.aload_n 1, 1) := by decide +kernel
theorem dX7_claimHigher_46 : decode cX7_claimHigher 46 = .ok (.aload 5, 2) := by decide +kernel
theorem dX7_claimHigher_48 : decode cX7_claimHigher 48 = .ok (.aload_n 3, 1) := by decide +kernel
theorem dX7_claimHigher_49 : decode cX7_claimHigher 49 = .ok (.invokestatic 281, 3) := by decide +kernel
theorem dX7_claimHigher_52 : decode cX7_claimHigher 52 = .ok (.aload_n 1, 1) := by decide +kernel
theorem dX7_claimHigher_53 : decode cX7_claimHigher 53 = .ok (.aload 5, 2) := by decide +kernel
theorem dX7_claimHigher_55 : decode cX7_claimHigher 55 = .ok (.aload_n 1, 1) := by decide +kernel
theorem dX7_claimHigher_56 : decode cX7_claimHigher 56 = .ok (.if_acmp .ne 17, 3) := by decide +kernel
theorem dX7_claimHigher_59 : decode cX7_claimHigher 59 = .ok (.aload_n 1, 1) := by decide +kernel
theorem dX7_claimHigher_60 : decode cX7_claimHigher 60 = .ok (.getfield 63, 3) := by decide +kernel
theorem dX7_claimHigher_63 : decode cX7_claimHigher 63 = .ok (.invokevirtual 278, 3) := by decide +kernel
theorem dX7_claimHigher_66 : decode cX7_claimHigher 66 = .ok (.ifCond .eq 7, 3) := by decide +kernel
theorem dX7_claimHigher_69 : decode cX7_claimHigher 69 = .ok (.iconst 1, 1) := by decide +kernel
theorem dX7_claimHigher_70 : decode cX7_claimHigher 70 = .ok (.goto 4, 3) := by decide +kernel
theorem dX7_claimHigher_73 : decode cX7_claimHigher 73 = .ok (.iconst 0, 1) := by decide +kernel
theorem dX7_claimHigher_74 : decode cX7_claimHigher 74 = .ok (.putfield 287, 3) := by decide +kernel
theorem dX7_claimHigher_77 : decode cX7_claimHigher 77 = .ok (.aload_n 1, 1) := by decide +kernel
theorem dX7_claimHigher_78 : decode cX7_claimHigher 78 = .ok (.bipush 6, 2) := by decide +kernel
theorem dX7_claimHigher_80 : decode cX7_claimHigher 80 = .ok (.putfield 48, 3) := by decide +kernel
theorem dX7_claimHigher_83 : decode cX7_claimHigher 83 = .ok (.return_, 1) := by decide +kernel
theorem dX7_giveBack_0 : decode cX7_giveBack 0 = .ok (.aload_n 1, 1) := by decide +kernel
theorem dX7_giveBack_1 : decode cX7_giveBack 1 = .ok (.getfield 241, 3) := by decide +kernel
theorem dX7_giveBack_4 : decode cX7_giveBack 4 = .ok (.aload_n 2, 1) := by decide +kernel
theorem dX7_giveBack_5 : decode cX7_giveBack 5 = .ok (.getfield 241, 3) := by decide +kernel
theorem dX7_giveBack_8 : decode cX7_giveBack 8 = .ok (.if_icmp .ge 7, 3) := by decide +kernel
theorem dX7_giveBack_11 : decode cX7_giveBack 11 = .ok (.aload_n 1, 1) := by decide +kernel
theorem dX7_giveBack_12 : decode cX7_giveBack 12 = .ok (.goto 4, 3) := by decide +kernel
theorem dX7_giveBack_15 : decode cX7_giveBack 15 = .ok (.aload_n 2, 1) := by decide +kernel
theorem dX7_giveBack_16 : decode cX7_giveBack 16 = .ok (.astore_n 3, 1) := by decide +kernel
theorem dX7_giveBack_17 : decode cX7_giveBack 17 = .ok (.aload_n 3, 1) := by decide +kernel
theorem dX7_giveBack_18 : decode cX7_giveBack 18 = .ok (.getfield 63, 3) := by decide +kernel
theorem dX7_giveBack_21 : decode cX7_giveBack 21 = .ok (.iconst 1, 1) := by decide +kernel
theorem dX7_giveBack_22 : decode cX7_giveBack 22 = .ok (.invokevirtual 107, 3) := by decide +kernel
theorem dX7_giveBack_25 : decode cX7_giveBack 25 = .ok (.aload_n 1, 1) := by decide +kernel
theorem dX7_giveBack_26 : decode cX7_giveBack 26 = .ok (.getfield 287, 3) := by decide +kernel
theorem dX7_giveBack_29 : decode cX7_giveBack 29 = .ok (.ifCond .eq 10, 3) := by decide +kernel
theorem dX7_giveBack_32 : decode cX7_giveBack 32 = .ok (.aload_n 1, 1) := by decide +kernel
theorem dX7_giveBack_33 : decode cX7_giveBack 33 = .ok (.invokevirtual 104, 3) := by decide +kernel
theorem dX7_giveBack_36 : decode cX7_giveBack 36 = .ok (.goto 8, 3) := by decide +kernel
theorem dX7_giveBack_39 : decode cX7_giveBack 39 = .ok (.aload_n 1, 1) := by decide +kernel
theorem dX7_giveBack_40 : decode cX7_giveBack 40 = .ok (.iconst 3, 1) := by decide +kernel
theorem dX7_giveBack_41 : decode cX7_giveBack 41 = .ok (.putfield 48, 3) := by decide +kernel
theorem dX7_giveBack_44 : decode cX7_giveBack 44 = .ok (.return_, 1) := by decide +kernel
theorem dX7_tellOther_0 : decode cX7_tellOther 0 = .ok (.aload_n 2, 1) := by decide +kernel
theorem dX7_tellOther_1 : decode cX7_tellOther 1 = .ok (.getfield 63, 3) := by decide +kernel
theorem dX7_tellOther_4 : decode cX7_tellOther 4 = .ok (.iconst 3, 1) := by decide +kernel
theorem dX7_tellOther_5 : decode cX7_tellOther 5 = .ok (.invokevirtual 107, 3) := by decide +kernel
theorem dX7_tellOther_8 : decode cX7_tellOther 8 = .ok (.aload_n 2, 1) := by decide +kernel
theorem dX7_tellOther_9 : decode cX7_tellOther 9 = .ok (.getfield 118, 3) := by decide +kernel
theorem dX7_tellOther_12 : decode cX7_tellOther 12 = .ok (.aload_n 1, 1) := by decide +kernel
theorem dX7_tellOther_13 : decode cX7_tellOther 13 = .ok (.getfield 241, 3) := by decide +kernel
theorem dX7_tellOther_16 : decode cX7_tellOther 16 = .ok (.aload_n 3, 1) := by decide +kernel
theorem dX7_tellOther_17 : decode cX7_tellOther 17 = .ok (.getfield 236, 3) := by decide +kernel
theorem dX7_tellOther_20 : decode cX7_tellOther 20 = .ok (.aload_n 3, 1) := by decide +kernel
theorem dX7_tellOther_21 : decode cX7_tellOther 21 = .ok (.getfield 273, 3) := by decide +kernel
theorem dX7_tellOther_24 : decode cX7_tellOther 24 = .ok (.ifCond .ne 10, 3) := by decide +kernel
theorem dX7_tellOther_27 : decode cX7_tellOther 27 = .ok (.aload_n 3, 1) := by decide +kernel
theorem dX7_tellOther_28 : decode cX7_tellOther 28 = .ok (.getfield 290, 3) := by decide +kernel
theorem dX7_tellOther_31 : decode cX7_tellOther 31 = .ok (.goto 4, 3) := by decide +kernel
theorem dX7_tellOther_34 : decode cX7_tellOther 34 = .ok (.iconst 0, 1) := by decide +kernel
theorem dX7_tellOther_35 : decode cX7_tellOther 35 = .ok (.aload_n 2, 1) := by decide +kernel
theorem dX7_tellOther_36 : decode cX7_tellOther 36 = .ok (.getfield 63, 3) := by decide +kernel
theorem dX7_tellOther_39 : decode cX7_tellOther 39 = .ok (.getfield 67, 3) := by decide +kernel
theorem dX7_tellOther_42 : decode cX7_tellOther 42 = .ok (.invokevirtual 293, 3) := by decide +kernel
theorem dX7_tellOther_45 : decode cX7_tellOther 45 = .ok (.aload_n 1, 1) := by decide +kernel
theorem dX7_tellOther_46 : decode cX7_tellOther 46 = .ok (.bipush 8, 2) := by decide +kernel
theorem dX7_tellOther_48 : decode cX7_tellOther 48 = .ok (.putfield 48, 3) := by decide +kernel
theorem dX7_tellOther_51 : decode cX7_tellOther 51 = .ok (.return_, 1) := by decide +kernel
theorem dX7_takeOwn_0 : decode cX7_takeOwn 0 = .ok (.aload_n 1, 1) := by decide +kernel
theorem dX7_takeOwn_1 : decode cX7_takeOwn 1 = .ok (.getfield 63, 3) := by decide +kernel
theorem dX7_takeOwn_4 : decode cX7_takeOwn 4 = .ok (.iconst 3, 1) := by decide +kernel
theorem dX7_takeOwn_5 : decode cX7_takeOwn 5 = .ok (.invokevirtual 107, 3) := by decide +kernel
theorem dX7_takeOwn_8 : decode cX7_takeOwn 8 = .ok (.aload_n 1, 1) := by decide +kernel
theorem dX7_takeOwn_9 : decode cX7_takeOwn 9 = .ok (.getfield 118, 3) := by decide +kernel
theorem dX7_takeOwn_12 : decode cX7_takeOwn 12 = .ok (.aload_n 2, 1) := by decide +kernel
theorem dX7_takeOwn_13 : decode cX7_takeOwn 13 = .ok (.getfield 203, 3) := by decide +kernel
theorem dX7_takeOwn_16 : decode cX7_takeOwn 16 = .ok (.aload_n 3, 1) := by decide +kernel
theorem dX7_takeOwn_17 : decode cX7_takeOwn 17 = .ok (.getfield 236, 3) := by decide +kernel
theorem dX7_takeOwn_20 : decode cX7_takeOwn 20 = .ok (.aload_n 3, 1) := by decide +kernel
theorem dX7_takeOwn_21 : decode cX7_takeOwn 21 = .ok (.getfield 273, 3) := by decide +kernel
theorem dX7_takeOwn_24 : decode cX7_takeOwn 24 = .ok (.iconst 1, 1) := by decide +kernel
theorem dX7_takeOwn_25 : decode cX7_takeOwn 25 = .ok (.if_icmp .ne 10, 3) := by decide +kernel
theorem dX7_takeOwn_28 : decode cX7_takeOwn 28 = .ok (.aload_n 2, 1) := by decide +kernel
theorem dX7_takeOwn_29 : decode cX7_takeOwn 29 = .ok (.getfield 297, 3) := by decide +kernel
theorem dX7_takeOwn_32 : decode cX7_takeOwn 32 = .ok (.goto 4, 3) := by decide +kernel
theorem dX7_takeOwn_35 : decode cX7_takeOwn 35 = .ok (.iconst 0, 1) := by decide +kernel
theorem dX7_takeOwn_36 : decode cX7_takeOwn 36 = .ok (.aload_n 1, 1) := by decide +kernel
theorem dX7_takeOwn_37 : decode cX7_takeOwn 37 = .ok (.getfield 63, 3) := by decide +kernel
theorem dX7_takeOwn_40 : decode cX7_takeOwn 40 = .ok (.getfield 67, 3) := by decide +kernel
theorem dX7_takeOwn_43 : decode cX7_takeOwn 43 = .ok (.invokevirtual 293, 3) := by decide +kernel
theorem dX7_takeOwn_46 : decode cX7_takeOwn 46 = .ok (.aload_n 1, 1) := by decide +kernel
theorem dX7_takeOwn_47 : decode cX7_takeOwn 47 = .ok (.invokevirtual 104, 3) := by decide +kernel
theorem dX7_takeOwn_50 : decode cX7_takeOwn 50 = .ok (.return_, 1) := by decide +kernel
theorem dX7_withdrawEntry_0 : decode cX7_withdrawEntry 0 = .ok (.aload_n 1, 1) := by decide +kernel
theorem dX7_withdrawEntry_1 : decode cX7_withdrawEntry 1 = .ok (.invokevirtual 298, 3) := by decide +kernel
theorem dX7_withdrawEntry_4 : decode cX7_withdrawEntry 4 = .ok (.astore_n 2, 1) := by decide +kernel
theorem dX7_withdrawEntry_5 : decode cX7_withdrawEntry 5 = .ok (.aload_n 2, 1) := by decide +kernel
theorem dX7_withdrawEntry_6 : decode cX7_withdrawEntry 6 = .ok (.ifnonnull 7, 3) := by decide +kernel
theorem dX7_withdrawEntry_9 : decode cX7_withdrawEntry 9 = .ok (.aconst_null, 1) := by decide +kernel
theorem dX7_withdrawEntry_10 : decode cX7_withdrawEntry 10 = .ok (.goto 11, 3) := by decide +kernel
theorem dX7_withdrawEntry_13 : decode cX7_withdrawEntry 13 = .ok (.aload_n 0, 1) := by decide +kernel
theorem dX7_withdrawEntry_14 : decode cX7_withdrawEntry 14 = .ok (.aload_n 2, 1) := by decide +kernel
theorem dX7_withdrawEntry_15 : decode cX7_withdrawEntry 15 = .ok (.getfield 302, 3) := by decide +kernel
theorem dX7_withdrawEntry_18 : decode cX7_withdrawEntry 18 = .ok (.invokevirtual 52, 3) := by decide +kernel
theorem dX7_withdrawEntry_21 : decode cX7_withdrawEntry 21 = .ok (.astore_n 3, 1) := by decide +kernel
theorem dX7_withdrawEntry_22 : decode cX7_withdrawEntry 22 = .ok (.aload_n 2, 1) := by decide +kernel
theorem dX7_withdrawEntry_23 : decode cX7_withdrawEntry 23 = .ok (.ifnull 25, 3) := by decide +kernel
theorem dX7_withdrawEntry_26 : decode cX7_withdrawEntry 26 = .ok (.aload_n 3, 1) := by decide +kernel
theorem dX7_withdrawEntry_27 : decode cX7_withdrawEntry 27 = .ok (.ifnull 21, 3) := by decide +kernel
theorem dX7_withdrawEntry_30 : decode cX7_withdrawEntry 30 = .ok (.aload_n 3, 1) := by decide +kernel
theorem dX7_withdrawEntry_31 : decode cX7_withdrawEntry 31 = .ok (.aload_n 2, 1) := by decide +kernel
theorem dX7_withdrawEntry_32 : decode cX7_withdrawEntry 32 = .ok (.getfield 271, 3) := by decide +kernel
theorem dX7_withdrawEntry_35 : decode cX7_withdrawEntry 35 = .ok (.invokevirtual 303, 3) := by decide +kernel
theorem dX7_withdrawEntry_38 : decode cX7_withdrawEntry 38 = .ok (.aload_n 1, 1) := by decide +kernel
theorem dX7_withdrawEntry_39 : decode cX7_withdrawEntry 39 = .ok (.dup, 1) := by decide +kernel
theorem dX7_withdrawEntry_40 : decode cX7_withdrawEntry 40 = .ok (.getfield 306, 3) := by decide +kernel
theorem dX7_withdrawEntry_43 : decode cX7_withdrawEntry 43 = .ok (.iconst 1, 1) := by decide +kernel
theorem dX7_withdrawEntry_44 : decode cX7_withdrawEntry 44 = .ok (.iadd, 1) := by decide +kernel
theorem dX7_withdrawEntry_45 : decode cX7_withdrawEntry 45 = .ok (.putfield 306, 3) := by decide +kernel
theorem dX7_withdrawEntry_48 : decode cX7_withdrawEntry 48 = .ok (.aload_n 1, 1) := by decide +kernel
theorem dX7_withdrawEntry_49 : decode cX7_withdrawEntry 49 = .ok (.invokevirtual 104, 3) := by decide +kernel
theorem dX7_withdrawEntry_52 : decode cX7_withdrawEntry 52 = .ok (.return_, 1) := by decide +kernel
theorem dX7_tryWord_0 : decode cX7_tryWord 0 = .ok (.aload_n 0, 1) := by decide +kernel
theorem dX7_tryWord_1 : decode cX7_tryWord 1 = .ok (.dup, 1) := by decide +kernel
theorem dX7_tryWord_2 : decode cX7_tryWord 2 = .ok (.getfield 156, 3) := by decide +kernel
theorem dX7_tryWord_5 : decode cX7_tryWord 5 = .ok (.iconst 1, 1) := by decide +kernel
theorem dX7_tryWord_6 : decode cX7_tryWord 6 = .ok (.iadd, 1) := by decide +kernel
theorem dX7_tryWord_7 : decode cX7_tryWord 7 = .ok (.putfield 156, 3) := by decide +kernel
theorem dX7_tryWord_10 : decode cX7_tryWord 10 = .ok (.aload_n 2, 1) := by decide +kernel
theorem dX7_tryWord_11 : decode cX7_tryWord 11 = .ok (.getfield 63, 3) := by decide +kernel
theorem dX7_tryWord_14 : decode cX7_tryWord 14 = .ok (.iconst 1, 1) := by decide +kernel
theorem dX7_tryWord_15 : decode cX7_tryWord 15 = .ok (.aload_n 1, 1) := by decide +kernel
theorem dX7_tryWord_16 : decode cX7_tryWord 16 = .ok (.aload_n 2, 1) := by decide +kernel
theorem dX7_tryWord_17 : decode cX7_tryWord 17 = .ok (.aload_n 3, 1) := by decide +kernel
theorem dX7_tryWord_18 : decode cX7_tryWord 18 = .ok (.invokestatic 309, 3) := by decide +kernel
theorem dX7_tryWord_21 : decode cX7_tryWord 21 = .ok (.invokevirtual 313, 3) := by decide +kernel
theorem dX7_tryWord_24 : decode cX7_tryWord 24 = .ok (.ifCond .eq 16, 3) := by decide +kernel
theorem dX7_tryWord_27 : decode cX7_tryWord 27 = .ok (.aload_n 2, 1) := by decide +kernel
theorem dX7_tryWord_28 : decode cX7_tryWord 28 = .ok (.getfield 63, 3) := by decide +kernel
theorem dX7_tryWord_31 : decode cX7_tryWord 31 = .ok (.aload_n 1, 1) := by decide +kernel
theorem dX7_tryWord_32 : decode cX7_tryWord 32 = .ok (.getfield 241, 3) := by decide +kernel
theorem dX7_tryWord_35 : decode cX7_tryWord 35 = .ok (.invokevirtual 317, 3) := by decide +kernel
theorem dX7_tryWord_38 : decode cX7_tryWord 38 = .ok (.iconst 1, 1) := by decide +kernel
theorem dX7_tryWord_39 : decode cX7_tryWord 39 = .ok (.ireturn, 1) := by decide +kernel
theorem dX7_tryWord_40 : decode cX7_tryWord 40 = .ok (.aload_n 0, 1) := by decide +kernel
theorem dX7_tryWord_41 : decode cX7_tryWord 41 = .ok (.dup, 1) := by decide +kernel
theorem dX7_tryWord_42 : decode cX7_tryWord 42 = .ok (.getfield 159, 3) := by decide +kernel
theorem dX7_tryWord_45 : decode cX7_tryWord 45 = .ok (.iconst 1, 1) := by decide +kernel
theorem dX7_tryWord_46 : decode cX7_tryWord 46 = .ok (.iadd, 1) := by decide +kernel
theorem dX7_tryWord_47 : decode cX7_tryWord 47 = .ok (.putfield 159, 3) := by decide +kernel
theorem dX7_tryWord_50 : decode cX7_tryWord 50 = .ok (.iconst 0, 1) := by decide +kernel
theorem dX7_tryWord_51 : decode cX7_tryWord 51 = .ok (.ireturn, 1) := by decide +kernel
theorem dX7_noteBusy_0 : decode cX7_noteBusy 0 = .ok (.aload_n 1, 1) := by decide +kernel
theorem dX7_noteBusy_1 : decode cX7_noteBusy 1 = .ok (.getfield 63, 3) := by decide +kernel
theorem dX7_noteBusy_4 : decode cX7_noteBusy 4 = .ok (.iconst 2, 1) := by decide +kernel
theorem dX7_noteBusy_5 : decode cX7_noteBusy 5 = .ok (.aload_n 0, 1) := by decide +kernel
theorem dX7_noteBusy_6 : decode cX7_noteBusy 6 = .ok (.aload_n 1, 1) := by decide +kernel
theorem dX7_noteBusy_7 : decode cX7_noteBusy 7 = .ok (.aload_n 2, 1) := by decide +kernel
theorem dX7_noteBusy_8 : decode cX7_noteBusy 8 = .ok (.invokestatic 309, 3) := by decide +kernel
theorem dX7_noteBusy_11 : decode cX7_noteBusy 11 = .ok (.invokevirtual 313, 3) := by decide +kernel
theorem dX7_noteBusy_14 : decode cX7_noteBusy 14 = .ok (.ifCond .eq 8, 3) := by decide +kernel
theorem dX7_noteBusy_17 : decode cX7_noteBusy 17 = .ok (.aload_n 0, 1) := by decide +kernel
theorem dX7_noteBusy_18 : decode cX7_noteBusy 18 = .ok (.iconst 1, 1) := by decide +kernel
theorem dX7_noteBusy_19 : decode cX7_noteBusy 19 = .ok (.putfield 320, 3) := by decide +kernel
theorem dX7_noteBusy_22 : decode cX7_noteBusy 22 = .ok (.return_, 1) := by decide +kernel
theorem dX7_versionSought_0 : decode cX7_versionSought 0 = .ok (.aload_n 1, 1) := by decide +kernel
theorem dX7_versionSought_1 : decode cX7_versionSought 1 = .ok (.aload_n 0, 1) := by decide +kernel
theorem dX7_versionSought_2 : decode cX7_versionSought 2 = .ok (.if_acmp .ne 13, 3) := by decide +kernel
theorem dX7_versionSought_5 : decode cX7_versionSought 5 = .ok (.aload_n 0, 1) := by decide +kernel
theorem dX7_versionSought_6 : decode cX7_versionSought 6 = .ok (.getfield 63, 3) := by decide +kernel
theorem dX7_versionSought_9 : decode cX7_versionSought 9 = .ok (.getfield 67, 3) := by decide +kernel
theorem dX7_versionSought_12 : decode cX7_versionSought 12 = .ok (.goto 7, 3) := by decide +kernel
theorem dX7_versionSought_15 : decode cX7_versionSought 15 = .ok (.aload_n 2, 1) := by decide +kernel
theorem dX7_versionSought_16 : decode cX7_versionSought 16 = .ok (.getfield 323, 3) := by decide +kernel
theorem dX7_versionSought_19 : decode cX7_versionSought 19 = .ok (.ireturn, 1) := by decide +kernel
theorem dX7_recordPair_0 : decode cX7_recordPair 0 = .ok (.aload_n 0, 1) := by decide +kernel
theorem dX7_recordPair_1 : decode cX7_recordPair 1 = .ok (.getfield 37, 3) := by decide +kernel
theorem dX7_recordPair_4 : decode cX7_recordPair 4 = .ok (.aload_n 1, 1) := by decide +kernel
theorem dX7_recordPair_5 : decode cX7_recordPair 5 = .ok (.aload_n 3, 1) := by decide +kernel
theorem dX7_recordPair_6 : decode cX7_recordPair 6 = .ok (.aload 4, 2) := by decide +kernel
theorem dX7_recordPair_8 : decode cX7_recordPair 8 = .ok (.aload_n 0, 1) := by decide +kernel
theorem dX7_recordPair_9 : decode cX7_recordPair 9 = .ok (.getfield 147, 3) := by decide +kernel
theorem dX7_recordPair_12 : decode cX7_recordPair 12 = .ok (.invokevirtual 324, 3) := by decide +kernel
theorem dX7_recordPair_15 : decode cX7_recordPair 15 = .ok (.aload_n 1, 1) := by decide +kernel
theorem dX7_recordPair_16 : decode cX7_recordPair 16 = .ok (.dup, 1) := by decide +kernel
theorem dX7_recordPair_17 : decode cX7_recordPair 17 = .ok (.getfield 328, 3) := by decide +kernel
theorem dX7_recordPair_20 : decode cX7_recordPair 20 = .ok (.iconst 1, 1) := by decide +kernel
theorem dX7_recordPair_21 : decode cX7_recordPair 21 = .ok (.iadd, 1) := by decide +kernel
theorem dX7_recordPair_22 : decode cX7_recordPair 22 = .ok (.putfield 328, 3) := by decide +kernel
theorem dX7_recordPair_25 : decode cX7_recordPair 25 = .ok (.aload_n 0, 1) := by decide +kernel
theorem dX7_recordPair_26 : decode cX7_recordPair 26 = .ok (.aload_n 1, 1) := by decide +kernel
theorem dX7_recordPair_27 : decode cX7_recordPair 27 = .ok (.invokevirtual 233, 3) := by decide +kernel
theorem dX7_recordPair_30 : decode cX7_recordPair 30 = .ok (.aload_n 2, 1) := by decide +kernel
theorem dX7_recordPair_31 : decode cX7_recordPair 31 = .ok (.dup, 1) := by decide +kernel
theorem dX7_recordPair_32 : decode cX7_recordPair 32 = .ok (.getfield 328, 3) := by decide +kernel
theorem dX7_recordPair_35 : decode cX7_recordPair 35 = .ok (.iconst 1, 1) := by decide +kernel
theorem dX7_recordPair_36 : decode cX7_recordPair 36 = .ok (.iadd, 1) := by decide +kernel
theorem dX7_recordPair_37 : decode cX7_recordPair 37 = .ok (.putfield 328, 3) := by decide +kernel
theorem dX7_recordPair_40 : decode cX7_recordPair 40 = .ok (.aload_n 0, 1) := by decide +kernel
theorem dX7_recordPair_41 : decode cX7_recordPair 41 = .ok (.aload_n 2, 1) := by decide +kernel
theorem dX7_recordPair_42 : decode cX7_recordPair 42 = .ok (.invokevirtual 233, 3) := by decide +kernel
theorem dX7_recordPair_45 : decode cX7_recordPair 45 = .ok (.return_, 1) := by decide +kernel
theorem dX7_noteDouble_0 : decode cX7_noteDouble 0 = .ok (.aload_n 1, 1) := by decide +kernel
theorem dX7_noteDouble_1 : decode cX7_noteDouble 1 = .ok (.getfield 328, 3) := by decide +kernel
theorem dX7_noteDouble_4 : decode cX7_noteDouble 4 = .ok (.iconst 1, 1) := by decide +kernel
theorem dX7_noteDouble_5 : decode cX7_noteDouble 5 = .ok (.if_icmp .gt 18, 3) := by decide +kernel
theorem dX7_noteDouble_8 : decode cX7_noteDouble 8 = .ok (.aload_n 1, 1) := by decide +kernel
theorem dX7_noteDouble_9 : decode cX7_noteDouble 9 = .ok (.getfield 328, 3) := by decide +kernel
theorem dX7_noteDouble_12 : decode cX7_noteDouble 12 = .ok (.iconst 1, 1) := by decide +kernel
theorem dX7_noteDouble_13 : decode cX7_noteDouble 13 = .ok (.if_icmp .ne 14, 3) := by decide +kernel
theorem dX7_noteDouble_16 : decode cX7_noteDouble 16 = .ok (.aload_n 1, 1) := by decide +kernel
theorem dX7_noteDouble_17 : decode cX7_noteDouble 17 = .ok (.getfield 229, 3) := by decide +kernel
theorem dX7_noteDouble_20 : decode cX7_noteDouble 20 = .ok (.ifCond .eq 7, 3) := by decide +kernel
theorem dX7_noteDouble_23 : decode cX7_noteDouble 23 = .ok (.iconst 1, 1) := by decide +kernel
theorem dX7_noteDouble_24 : decode cX7_noteDouble 24 = .ok (.goto 4, 3) := by decide +kernel
theorem dX7_noteDouble_27 : decode cX7_noteDouble 27 = .ok (.iconst 0, 1) := by decide +kernel
theorem dX7_noteDouble_28 : decode cX7_noteDouble 28 = .ok (.istore_n 2, 1) := by decide +kernel
theorem dX7_noteDouble_29 : decode cX7_noteDouble 29 = .ok (.iload_n 2, 1) := by decide +kernel
theorem dX7_noteDouble_30 : decode cX7_noteDouble 30 = .ok (.ifCond .eq 25, 3) := by decide +kernel
theorem dX7_noteDouble_33 : decode cX7_noteDouble 33 = .ok (.aload_n 1, 1) := by decide +kernel
theorem dX7_noteDouble_34 : decode cX7_noteDouble 34 = .ok (.getfield 331, 3) := by decide +kernel
theorem dX7_noteDouble_37 : decode cX7_noteDouble 37 = .ok (.ifCond .ne 18, 3) := by decide +kernel
theorem dX7_noteDouble_40 : decode cX7_noteDouble 40 = .ok (.aload_n 1, 1) := by decide +kernel
theorem dX7_noteDouble_41 : decode cX7_noteDouble 41 = .ok (.iconst 1, 1) := by decide +kernel
theorem dX7_noteDouble_42 : decode cX7_noteDouble 42 = .ok (.putfield 331, 3) := by decide +kernel
theorem dX7_noteDouble_45 : decode cX7_noteDouble 45 = .ok (.aload_n 0, 1) := by decide +kernel
theorem dX7_noteDouble_46 : decode cX7_noteDouble 46 = .ok (.dup, 1) := by decide +kernel
theorem dX7_noteDouble_47 : decode cX7_noteDouble 47 = .ok (.getfield 134, 3) := by decide +kernel
theorem dX7_noteDouble_50 : decode cX7_noteDouble 50 = .ok (.iconst 1, 1) := by decide +kernel
theorem dX7_noteDouble_51 : decode cX7_noteDouble 51 = .ok (.iadd, 1) := by decide +kernel
theorem dX7_noteDouble_52 : decode cX7_noteDouble 52 = .ok (.putfield 134, 3) := by decide +kernel
theorem dX7_noteDouble_55 : decode cX7_noteDouble 55 = .ok (.return_, 1) := by decide +kernel
end
section
theorem dX8_init_0 : decode cX8_init 0 = .ok (.aload_n 0, 1) := by decide +kernel
theorem dX8_init_1 : decode cX8_init 1 = .ok (.invokespecial 1, 3) := by decide +kernel
theorem dX8_init_4 : decode cX8_init 4 = .ok (.aload_n 0, 1) := by decide +kernel
theorem dX8_init_5 : decode cX8_init 5 = .ok (.bipush 16, 2) := by decide +kernel
theorem dX8_init_7 : decode cX8_init 7 = .ok (.newarray .int, 2) := by decide +kernel
theorem dX8_init_9 : decode cX8_init 9 = .ok (.putfield 9, 3) := by decide +kernel
theorem dX8_init_12 : decode cX8_init 12 = .ok (.aload_n 0, 1) := by decide +kernel
theorem dX8_init_13 : decode cX8_init 13 = .ok (.bipush 16, 2) := by decide +kernel
theorem dX8_init_15 : decode cX8_init 15 = .ok (.newarray .int, 2) := by decide +kernel
theorem dX8_init_17 : decode cX8_init 17 = .ok (.putfield 13, 3) := by decide +kernel
theorem dX8_init_20 : decode cX8_init 20 = .ok (.aload_n 0, 1) := by decide +kernel
theorem dX8_init_21 : decode cX8_init 21 = .ok (.sipush 128, 3) := by decide +kernel
theorem dX8_init_24 : decode cX8_init 24 = .ok (.newarray .int, 2) := by decide +kernel
theorem dX8_init_26 : decode cX8_init 26 = .ok (.putfield 16, 3) := by decide +kernel
theorem dX8_init_29 : decode cX8_init 29 = .ok (.aload_n 0, 1) := by decide +kernel
theorem dX8_init_30 : decode cX8_init 30 = .ok (.sipush 128, 3) := by decide +kernel
theorem dX8_init_33 : decode cX8_init 33 = .ok (.newarray .int, 2) := by decide +kernel
theorem dX8_init_35 : decode cX8_init 35 = .ok (.putfield 19, 3) := by decide +kernel
theorem dX8_init_38 : decode cX8_init 38 = .ok (.aload_n 0, 1) := by decide +kernel
theorem dX8_init_39 : decode cX8_init 39 = .ok (.sipush 128, 3) := by decide +kernel
theorem dX8_init_42 : decode cX8_init 42 = .ok (.newarray .int, 2) := by decide +kernel
theorem dX8_init_44 : decode cX8_init 44 = .ok (.putfield 22, 3) := by decide +kernel
theorem dX8_init_47 : decode cX8_init 47 = .ok (.aload_n 0, 1) := by decide +kernel
theorem dX8_init_48 : decode cX8_init 48 = .ok (.sipush 128, 3) := by decide +kernel
theorem dX8_init_51 : decode cX8_init 51 = .ok (.newarray .boolean, 2) := by decide +kernel
theorem dX8_init_53 : decode cX8_init 53 = .ok (.putfield 25, 3) := by decide +kernel
theorem dX8_init_56 : decode cX8_init 56 = .ok (.aload_n 0, 1) := by decide +kernel
theorem dX8_init_57 : decode cX8_init 57 = .ok (.bipush 16, 2) := by decide +kernel
theorem dX8_init_59 : decode cX8_init 59 = .ok (.newarray .int, 2) := by decide +kernel
theorem dX8_init_61 : decode cX8_init 61 = .ok (.putfield 29, 3) := by decide +kernel
theorem dX8_init_64 : decode cX8_init 64 = .ok (.aload_n 0, 1) := by decide +kernel
theorem dX8_init_65 : decode cX8_init 65 = .ok (.bipush 16, 2) := by decide +kernel
theorem dX8_init_67 : decode cX8_init 67 = .ok (.newarray .int, 2) := by decide +kernel
theorem dX8_init_69 : decode cX8_init 69 = .ok (.putfield 32, 3) := by decide +kernel
theorem dX8_init_72 : decode cX8_init 72 = .ok (.aload_n 0, 1) := by decide +kernel
theorem dX8_init_73 : decode cX8_init 73 = .ok (.bipush 16, 2) := by decide +kernel
theorem dX8_init_75 : decode cX8_init 75 = .ok (.newarray .int, 2) := by decide +kernel
theorem dX8_init_77 : decode cX8_init 77 = .ok (.putfield 35, 3) := by decide +kernel
theorem dX8_init_80 : decode cX8_init 80 = .ok (.aload_n 0, 1) := by decide +kernel
theorem dX8_init_81 : decode cX8_init 81 = .ok (.bipush 16, 2) := by decide +kernel
theorem dX8_init_83 : decode cX8_init 83 = .ok (.newarray .int, 2) := by decide +kernel
theorem dX8_init_85 : decode cX8_init 85 = .ok (.putfield 38, 3) := by decide +kernel
theorem dX8_init_88 : decode cX8_init 88 = .ok (.aload_n 0, 1) := by decide +kernel
theorem dX8_init_89 : decode cX8_init 89 = .ok (.bipush 16, 2) := by decide +kernel
theorem dX8_init_91 : decode cX8_init 91 = .ok (.newarray .int, 2) := by decide +kernel
theorem dX8_init_93 : decode cX8_init 93 = .ok (.putfield 41, 3) := by decide +kernel
theorem dX8_init_96 : decode cX8_init 96 = .ok (.aload_n 0, 1) := by decide +kernel
theorem dX8_init_97 : decode cX8_init 97 = .ok (.bipush 16, 2) := by decide +kernel
theorem dX8_init_99 : decode cX8_init 99 = .ok (.newarray .int, 2) := by decide +kernel
theorem dX8_init_101 : decode cX8_init 101 = .ok (.putfield 44, 3) := by decide +kernel
theorem dX8_init_104 : decode cX8_init 104 = .ok (.aload_n 0, 1) := by decide +kernel
theorem dX8_init_105 : decode cX8_init 105 = .ok (.bipush 16, 2) := by decide +kernel
theorem dX8_init_107 : decode cX8_init 107 = .ok (.newarray .int, 2) := by decide +kernel
theorem dX8_init_109 : decode cX8_init 109 = .ok (.putfield 47, 3) := by decide +kernel
theorem dX8_init_112 : decode cX8_init 112 = .ok (.aload_n 0, 1) := by decide +kernel
theorem dX8_init_113 : decode cX8_init 113 = .ok (.bipush 16, 2) := by decide +kernel
theorem dX8_init_115 : decode cX8_init 115 = .ok (.newarray .boolean, 2) := by decide +kernel
theorem dX8_init_117 : decode cX8_init 117 = .ok (.putfield 50, 3) := by decide +kernel
theorem dX8_init_120 : decode cX8_init 120 = .ok (.aload_n 0, 1) := by decide +kernel
theorem dX8_init_121 : decode cX8_init 121 = .ok (.bipush 16, 2) := by decide +kernel
theorem dX8_init_123 : decode cX8_init 123 = .ok (.newarray .int, 2) := by decide +kernel
theorem dX8_init_125 : decode cX8_init 125 = .ok (.putfield 53, 3) := by decide +kernel
theorem dX8_init_128 : decode cX8_init 128 = .ok (.aload_n 0, 1) := by decide +kernel
theorem dX8_init_129 : decode cX8_init 129 = .ok (.bipush 16, 2) := by decide +kernel
theorem dX8_init_131 : decode cX8_init 131 = .ok (.newarray .int, 2) := by decide +kernel
theorem dX8_init_133 : decode cX8_init 133 = .ok (.putfield 56, 3) := by decide +kernel
theorem dX8_init_136 : decode cX8_init 136 = .ok (.aload_n 0, 1) := by decide +kernel
theorem dX8_init_137 : decode cX8_init 137 = .ok (.bipush 16, 2) := by decide +kernel
theorem dX8_init_139 : decode cX8_init 139 = .ok (.newarray .int, 2) := by decide +kernel
theorem dX8_init_141 : decode cX8_init 141 = .ok (.putfield 59, 3) := by decide +kernel
theorem dX8_init_144 : decode cX8_init 144 = .ok (.aload_n 0, 1) := by decide +kernel
theorem dX8_init_145 : decode cX8_init 145 = .ok (.bipush 16, 2) := by decide +kernel
theorem dX8_init_147 : decode cX8_init 147 = .ok (.newarray .boolean, 2) := by decide +kernel
theorem dX8_init_149 : decode cX8_init 149 = .ok (.putfield 62, 3) := by decide +kernel
theorem dX8_init_152 : decode cX8_init 152 = .ok (.aload_n 0, 1) := by decide +kernel
theorem dX8_init_153 : decode cX8_init 153 = .ok (.bipush 16, 2) := by decide +kernel
theorem dX8_init_155 : decode cX8_init 155 = .ok (.newarray .boolean, 2) := by decide +kernel
theorem dX8_init_157 : decode cX8_init 157 = .ok (.putfield 65, 3) := by decide +kernel
theorem dX8_init_160 : decode cX8_init 160 = .ok (.aload_n 0, 1) := by decide +kernel
theorem dX8_init_161 : decode cX8_init 161 = .ok (.bipush 16, 2) := by decide +kernel
theorem dX8_init_163 : decode cX8_init 163 = .ok (.newarray .boolean, 2) := by decide +kernel
theorem dX8_init_165 : decode cX8_init 165 = .ok (.putfield 68, 3) := by decide +kernel
theorem dX8_init_168 : decode cX8_init 168 = .ok (.aload_n 0, 1) := by decide +kernel
theorem dX8_init_169 : decode cX8_init 169 = .ok (.bipush 16, 2) := by decide +kernel
theorem dX8_init_171 : decode cX8_init 171 = .ok (.newarray .int, 2) := by decide +kernel
theorem dX8_init_173 : decode cX8_init 173 = .ok (.putfield 71, 3) := by decide +kernel
theorem dX8_init_176 : decode cX8_init 176 = .ok (.aload_n 0, 1) := by decide +kernel
theorem dX8_init_177 : decode cX8_init 177 = .ok (.bipush 16, 2) := by decide +kernel
theorem dX8_init_179 : decode cX8_init 179 = .ok (.newarray .int, 2) := by decide +kernel
theorem dX8_init_181 : decode cX8_init 181 = .ok (.putfield 74, 3) := by decide +kernel
theorem dX8_init_184 : decode cX8_init 184 = .ok (.aload_n 0, 1) := by decide +kernel
theorem dX8_init_185 : decode cX8_init 185 = .ok (.bipush 16, 2) := by decide +kernel
theorem dX8_init_187 : decode cX8_init 187 = .ok (.newarray .int, 2) := by decide +kernel
theorem dX8_init_189 : decode cX8_init 189 = .ok (.putfield 77, 3) := by decide +kernel
theorem dX8_init_192 : decode cX8_init 192 = .ok (.aload_n 0, 1) := by decide +kernel
theorem dX8_init_193 : decode cX8_init 193 = .ok (.bipush 16, 2) := by decide +kernel
theorem dX8_init_195 : decode cX8_init 195 = .ok (.newarray .int, 2) := by decide +kernel
theorem dX8_init_197 : decode cX8_init 197 = .ok (.putfield 80, 3) := by decide +kernel
theorem dX8_init_200 : decode cX8_init 200 = .ok (.aload_n 0, 1) := by decide +kernel
theorem dX8_init_201 : decode cX8_init 201 = .ok (.sipush 130, 3) := by decide +kernel
theorem dX8_init_204 : decode cX8_init 204 = .ok (.newarray .int, 2) := by decide +kernel
theorem dX8_init_206 : decode cX8_init 206 = .ok (.putfield 83, 3) := by decide +kernel
theorem dX8_init_209 : decode cX8_init 209 = .ok (.aload_n 0, 1) := by decide +kernel
theorem dX8_init_210 : decode cX8_init 210 = .ok (.sipush 130, 3) := by decide +kernel
theorem dX8_init_213 : decode cX8_init 213 = .ok (.newarray .int, 2) := by decide +kernel
theorem dX8_init_215 : decode cX8_init 215 = .ok (.putfield 86, 3) := by decide +kernel
theorem dX8_init_218 : decode cX8_init 218 = .ok (.aload_n 0, 1) := by decide +kernel
theorem dX8_init_219 : decode cX8_init 219 = .ok (.sipush 130, 3) := by decide +kernel
theorem dX8_init_222 : decode cX8_init 222 = .ok (.newarray .int, 2) := by decide +kernel
theorem dX8_init_224 : decode cX8_init 224 = .ok (.putfield 89, 3) := by decide +kernel
theorem dX8_init_227 : decode cX8_init 227 = .ok (.aload_n 0, 1) := by decide +kernel
theorem dX8_init_228 : decode cX8_init 228 = .ok (.sipush 130, 3) := by decide +kernel
theorem dX8_init_231 : decode cX8_init 231 = .ok (.newarray .int, 2) := by decide +kernel
theorem dX8_init_233 : decode cX8_init 233 = .ok (.putfield 92, 3) := by decide +kernel
theorem dX8_init_236 : decode cX8_init 236 = .ok (.aload_n 0, 1) := by decide +kernel
theorem dX8_init_237 : decode cX8_init 237 = .ok (.sipush 130, 3) := by decide +kernel
theorem dX8_init_240 : decode cX8_init 240 = .ok (.newarray .int, 2) := by decide +kernel
theorem dX8_init_242 : decode cX8_init 242 = .ok (.putfield 95, 3) := by decide +kernel
theorem dX8_init_245 : decode cX8_init 245 = .ok (.aload_n 0, 1) := by decide +kernel
theorem dX8_init_246 : decode cX8_init 246 = .ok (.sipush 130, 3) := by decide +kernel
theorem dX8_init_249 : decode cX8_init 249 = .ok (.newarray .int, 2) := by decide +kernel
theorem dX8_init_251 : decode cX8_init 251 = .ok (.putfield 98, 3) := by decide +kernel
theorem dX8_init_254 : decode cX8_init 254 = .ok (.aload_n 0, 1) := by decide +kernel
theorem dX8_init_255 : decode cX8_init 255 = .ok (.sipush 1600, 3) := by decide +kernel
theorem dX8_init_258 : decode cX8_init 258 = .ok (.newarray .int, 2) := by decide +kernel
theorem dX8_init_260 : decode cX8_init 260 = .ok (.putfield 101, 3) := by decide +kernel
theorem dX8_init_263 : decode cX8_init 263 = .ok (.aload_n 0, 1) := by decide +kernel
theorem dX8_init_264 : decode cX8_init 264 = .ok (.sipush 16016, 3) := by decide +kernel
theorem dX8_init_267 : decode cX8_init 267 = .ok (.newarray .int, 2) := by decide +kernel
theorem dX8_init_269 : decode cX8_init 269 = .ok (.putfield 104, 3) := by decide +kernel
theorem dX8_init_272 : decode cX8_init 272 = .ok (.aload_n 0, 1) := by decide +kernel
theorem dX8_init_273 : decode cX8_init 273 = .ok (.sipush 16016, 3) := by decide +kernel
theorem dX8_init_276 : decode cX8_init 276 = .ok (.newarray .boolean, 2) := by decide +kernel
theorem dX8_init_278 : decode cX8_init 278 = .ok (.putfield 107, 3) := by decide +kernel
theorem dX8_init_281 : decode cX8_init 281 = .ok (.aload_n 0, 1) := by decide +kernel
theorem dX8_init_282 : decode cX8_init 282 = .ok (.iload_n 1, 1) := by decide +kernel
theorem dX8_init_283 : decode cX8_init 283 = .ok (.iconst 2, 1) := by decide +kernel
theorem dX8_init_284 : decode cX8_init 284 = .ok (.if_icmp .ge 7, 3) := by decide +kernel
theorem dX8_init_287 : decode cX8_init 287 = .ok (.iconst 2, 1) := by decide +kernel
theorem dX8_init_288 : decode cX8_init 288 = .ok (.goto 15, 3) := by decide +kernel
theorem dX8_init_291 : decode cX8_init 291 = .ok (.iload_n 1, 1) := by decide +kernel
theorem dX8_init_292 : decode cX8_init 292 = .ok (.bipush 16, 2) := by decide +kernel
theorem dX8_init_294 : decode cX8_init 294 = .ok (.if_icmp .le 8, 3) := by decide +kernel
theorem dX8_init_297 : decode cX8_init 297 = .ok (.bipush 16, 2) := by decide +kernel
theorem dX8_init_299 : decode cX8_init 299 = .ok (.goto 4, 3) := by decide +kernel
theorem dX8_init_302 : decode cX8_init 302 = .ok (.iload_n 1, 1) := by decide +kernel
theorem dX8_init_303 : decode cX8_init 303 = .ok (.putfield 110, 3) := by decide +kernel
theorem dX8_init_306 : decode cX8_init 306 = .ok (.return_, 1) := by decide +kernel
theorem dX8_isOne_0 : decode cX8_isOne 0 = .ok (.iload_n 1, 1) := by decide +kernel
theorem dX8_isOne_1 : decode cX8_isOne 1 = .ok (.ifCond .lt 15, 3) := by decide +kernel
theorem dX8_isOne_4 : decode cX8_isOne 4 = .ok (.iload_n 1, 1) := by decide +kernel
theorem dX8_isOne_5 : decode cX8_isOne 5 = .ok (.aload_n 0, 1) := by decide +kernel
theorem dX8_isOne_6 : decode cX8_isOne 6 = .ok (.getfield 110, 3) := by decide +kernel
theorem dX8_isOne_9 : decode cX8_isOne 9 = .ok (.if_icmp .ge 7, 3) := by decide +kernel
theorem dX8_isOne_12 : decode cX8_isOne 12 = .ok (.iconst 1, 1) := by decide +kernel
theorem dX8_isOne_13 : decode cX8_isOne 13 = .ok (.goto 4, 3) := by decide +kernel
theorem dX8_isOne_16 : decode cX8_isOne 16 = .ok (.iconst 0, 1) := by decide +kernel
theorem dX8_isOne_17 : decode cX8_isOne 17 = .ok (.ireturn, 1) := by decide +kernel
theorem dX8_isIn_0 : decode cX8_isIn 0 = .ok (.aload_n 0, 1) := by decide +kernel
theorem dX8_isIn_1 : decode cX8_isIn 1 = .ok (.iload_n 1, 1) := by decide +kernel
theorem dX8_isIn_2 : decode cX8_isIn 2 = .ok (.invokevirtual 114, 3) := by decide +kernel
theorem dX8_isIn_5 : decode cX8_isIn 5 = .ok (.ifCond .eq 17, 3) := by decide +kernel
theorem dX8_isIn_8 : decode cX8_isIn 8 = .ok (.aload_n 0, 1) := by decide +kernel
theorem dX8_isIn_9 : decode cX8_isIn 9 = .ok (.getfield 9, 3) := by decide +kernel
theorem dX8_isIn_12 : decode cX8_isIn 12 = .ok (.iload_n 1, 1) := by decide +kernel
theorem dX8_isIn_13 : decode cX8_isIn 13 = .ok (.iaload, 1) := by decide +kernel
theorem dX8_isIn_14 : decode cX8_isIn 14 = .ok (.iload_n 2, 1) := by decide +kernel
theorem dX8_isIn_15 : decode cX8_isIn 15 = .ok (.if_icmp .ne 7, 3) := by decide +kernel
theorem dX8_isIn_18 : decode cX8_isIn 18 = .ok (.iconst 1, 1) := by decide +kernel
theorem dX8_isIn_19 : decode cX8_isIn 19 = .ok (.goto 4, 3) := by decide +kernel
theorem dX8_isIn_22 : decode cX8_isIn 22 = .ok (.iconst 0, 1) := by decide +kernel
theorem dX8_isIn_23 : decode cX8_isIn 23 = .ok (.ireturn, 1) := by decide +kernel
theorem dX8_isOffering_0 : decode cX8_isOffering 0 = .ok (.aload_n 0, 1) := by decide +kernel
theorem dX8_isOffering_1 : decode cX8_isOffering 1 = .ok (.iload_n 1, 1) := by decide +kernel
theorem dX8_isOffering_2 : decode cX8_isOffering 2 = .ok (.invokevirtual 114, 3) := by decide +kernel
theorem dX8_isOffering_5 : decode cX8_isOffering 5 = .ok (.ifCond .eq 28, 3) := by decide +kernel
theorem dX8_isOffering_8 : decode cX8_isOffering 8 = .ok (.aload_n 0, 1) := by decide +kernel
theorem dX8_isOffering_9 : decode cX8_isOffering 9 = .ok (.getfield 9, 3) := by decide +kernel
theorem dX8_isOffering_12 : decode cX8_isOffering 12 = .ok (.iload_n 1, 1) := by decide +kernel
theorem dX8_isOffering_13 : decode cX8_isOffering 13 = .ok (.iaload, 1) := by decide +kernel
theorem dX8_isOffering_14 : decode cX8_isOffering 14 = .ok (.iconst 2, 1) := by decide +kernel
theorem dX8_isOffering_15 : decode cX8_isOffering 15 = .ok (.if_icmp .lt 18, 3) := by decide +kernel
theorem dX8_isOffering_18 : decode cX8_isOffering 18 = .ok (.aload_n 0, 1) := by decide +kernel
theorem dX8_isOffering_19 : decode cX8_isOffering 19 = .ok (.getfield 9, 3) := by decide +kernel
theorem dX8_isOffering_22 : decode cX8_isOffering 22 = .ok (.iload_n 1, 1) := by decide +kernel
theorem dX8_isOffering_23 : decode cX8_isOffering 23 = .ok (.iaload, 1) := by decide +kernel
theorem dX8_isOffering_24 : decode cX8_isOffering 24 = .ok (.bipush 11, 2) := by decide +kernel
theorem dX8_isOffering_26 : decode cX8_isOffering 26 = .ok (.if_icmp .gt 7, 3) := by decide +kernel
theorem dX8_isOffering_29 : decode cX8_isOffering 29 = .ok (.iconst 1, 1) := by decide +kernel
theorem dX8_isOffering_30 : decode cX8_isOffering 30 = .ok (.goto 4, 3) := by decide +kernel
theorem dX8_isOffering_33 : decode cX8_isOffering 33 = .ok (.iconst 0, 1) := by decide +kernel
theorem dX8_isOffering_34 : decode cX8_isOffering 34 = .ok (.ireturn, 1) := by decide +kernel
theorem dX8_empties_0 : decode cX8_empties 0 = .ok (.aload_n 0, 1) := by decide +kernel
theorem dX8_empties_1 : decode cX8_empties 1 = .ok (.getfield 9, 3) := by decide +kernel
theorem dX8_empties_4 : decode cX8_empties 4 = .ok (.iload_n 1, 1) := by decide +kernel
theorem dX8_empties_5 : decode cX8_empties 5 = .ok (.iconst 1, 1) := by decide +kernel
theorem dX8_empties_6 : decode cX8_empties 6 = .ok (.iastore, 1) := by decide +kernel
theorem dX8_empties_7 : decode cX8_empties 7 = .ok (.aload_n 0, 1) := by decide +kernel
theorem dX8_empties_8 : decode cX8_empties 8 = .ok (.getfield 13, 3) := by decide +kernel
theorem dX8_empties_11 : decode cX8_empties 11 = .ok (.iload_n 1, 1) := by decide +kernel
theorem dX8_empties_12 : decode cX8_empties 12 = .ok (.iconst 0, 1) := by decide +kernel
theorem dX8_empties_13 : decode cX8_empties 13 = .ok (.iastore, 1) := by decide +kernel
theorem dX8_empties_14 : decode cX8_empties 14 = .ok (.aload_n 0, 1) := by decide +kernel
theorem dX8_empties_15 : decode cX8_empties 15 = .ok (.getfield 29, 3) := by decide +kernel
theorem dX8_empties_18 : decode cX8_empties 18 = .ok (.iload_n 1, 1) := by decide +kernel
theorem dX8_empties_19 : decode cX8_empties 19 = .ok (.iconst 0, 1) := by decide +kernel
theorem dX8_empties_20 : decode cX8_empties 20 = .ok (.iastore, 1) := by decide +kernel
theorem dX8_empties_21 : decode cX8_empties 21 = .ok (.return_, 1) := by decide +kernel
theorem dX8_spawn_0 : decode cX8_spawn 0 = .ok (.aload_n 0, 1) := by decide +kernel
theorem dX8_spawn_1 : decode cX8_spawn 1 = .ok (.iload_n 1, 1) := by decide +kernel
theorem dX8_spawn_2 : decode cX8_spawn 2 = .ok (.iconst 0, 1) := by decide +kernel
theorem dX8_spawn_3 : decode cX8_spawn 3 = .ok (.invokevirtual 118, 3) := by decide +kernel
theorem dX8_spawn_6 : decode cX8_spawn 6 = .ok (.ifCond .ne 5, 3) := by decide +kernel
theorem dX8_spawn_9 : decode cX8_spawn 9 = .ok (.iconst 0, 1) := by decide +kernel
theorem dX8_spawn_10 : decode cX8_spawn 10 = .ok (.ireturn, 1) := by decide +kernel
theorem dX8_spawn_11 : decode cX8_spawn 11 = .ok (.aload_n 0, 1) := by decide +kernel
theorem dX8_spawn_12 : decode cX8_spawn 12 = .ok (.iload_n 1, 1) := by decide +kernel
theorem dX8_spawn_13 : decode cX8_spawn 13 = .ok (.invokevirtual 122, 3) := by decide +kernel
theorem dX8_spawn_16 : decode cX8_spawn 16 = .ok (.iconst 1, 1) := by decide +kernel
theorem dX8_spawn_17 : decode cX8_spawn 17 = .ok (.ireturn, 1) := by decide +kernel
theorem dX8_quit_0 : decode cX8_quit 0 = .ok (.aload_n 0, 1) := by decide +kernel
theorem dX8_quit_1 : decode cX8_quit 1 = .ok (.iload_n 1, 1) := by decide +kernel
theorem dX8_quit_2 : decode cX8_quit 2 = .ok (.iconst 1, 1) := by decide +kernel
theorem dX8_quit_3 : decode cX8_quit 3 = .ok (.invokevirtual 118, 3) := by decide +kernel
theorem dX8_quit_6 : decode cX8_quit 6 = .ok (.ifCond .ne 5, 3) := by decide +kernel
theorem dX8_quit_9 : decode cX8_quit 9 = .ok (.iconst 0, 1) := by decide +kernel
theorem dX8_quit_10 : decode cX8_quit 10 = .ok (.ireturn, 1) := by decide +kernel
theorem dX8_quit_11 : decode cX8_quit 11 = .ok (.aload_n 0, 1) := by decide +kernel
theorem dX8_quit_12 : decode cX8_quit 12 = .ok (.getfield 9, 3) := by decide +kernel
theorem dX8_quit_15 : decode cX8_quit 15 = .ok (.iload_n 1, 1) := by decide +kernel
theorem dX8_quit_16 : decode cX8_quit 16 = .ok (.iconst 0, 1) := by decide +kernel
theorem dX8_quit_17 : decode cX8_quit 17 = .ok (.iastore, 1) := by decide +kernel
theorem dX8_quit_18 : decode cX8_quit 18 = .ok (.iconst 1, 1) := by decide +kernel
theorem dX8_quit_19 : decode cX8_quit 19 = .ok (.ireturn, 1) := by decide +kernel
theorem dX8_guard_0 : decode cX8_guard 0 = .ok (.aload_n 0, 1) := by decide +kernel
theorem dX8_guard_1 : decode cX8_guard 1 = .ok (.iload_n 1, 1) := by decide +kernel
theorem dX8_guard_2 : decode cX8_guard 2 = .ok (.iconst 1, 1) := by decide +kernel
theorem dX8_guard_3 : decode cX8_guard 3 = .ok (.invokevirtual 118, 3) := by decide +kernel
theorem dX8_guard_6 : decode cX8_guard 6 = .ok (.ifCond .eq 33, 3) := by decide +kernel
theorem dX8_guard_9 : decode cX8_guard 9 = .ok (.iload_n 2, 1) := by decide +kernel
theorem dX8_guard_10 : decode cX8_guard 10 = .ok (.ifCond .lt 29, 3) := by decide +kernel
theorem dX8_guard_13 : decode cX8_guard 13 = .ok (.iload_n 2, 1) := by decide +kernel
theorem dX8_guard_14 : decode cX8_guard 14 = .ok (.iconst 1, 1) := by decide +kernel
theorem dX8_guard_15 : decode cX8_guard 15 = .ok (.if_icmp .gt 24, 3) := by decide +kernel
theorem dX8_guard_18 : decode cX8_guard 18 = .ok (.iload_n 3, 1) := by decide +kernel
theorem dX8_guard_19 : decode cX8_guard 19 = .ok (.ifCond .lt 20, 3) := by decide +kernel
theorem dX8_guard_22 : decode cX8_guard 22 = .ok (.iload_n 3, 1) := by decide +kernel
theorem dX8_guard_23 : decode cX8_guard 23 = .ok (.bipush 8, 2) := by decide +kernel
theorem dX8_guard_25 : decode cX8_guard 25 = .ok (.if_icmp .ge 14, 3) := by decide +kernel
theorem dX8_guard_28 : decode cX8_guard 28 = .ok (.aload_n 0, 1) := by decide +kernel
theorem dX8_guard_29 : decode cX8_guard 29 = .ok (.getfield 13, 3) := by decide +kernel
theorem dX8_guard_32 : decode cX8_guard 32 = .ok (.iload_n 1, 1) := by decide +kernel
theorem dX8_guard_33 : decode cX8_guard 33 = .ok (.iaload, 1) := by decide +kernel
theorem dX8_guard_34 : decode cX8_guard 34 = .ok (.bipush 8, 2) := by decide +kernel
theorem dX8_guard_36 : decode cX8_guard 36 = .ok (.if_icmp .ne 5, 3) := by decide +kernel
theorem dX8_guard_39 : decode cX8_guard 39 = .ok (.iconst 0, 1) := by decide +kernel
theorem dX8_guard_40 : decode cX8_guard 40 = .ok (.ireturn, 1) := by decide +kernel
theorem dX8_guard_41 : decode cX8_guard 41 = .ok (.bipush 8, 2) := by decide +kernel
theorem dX8_guard_43 : decode cX8_guard 43 = .ok (.iload_n 1, 1) := by decide +kernel
theorem dX8_guard_44 : decode cX8_guard 44 = .ok (.imul, 1) := by decide +kernel
theorem dX8_guard_45 : decode cX8_guard 45 = .ok (.aload_n 0, 1) := by decide +kernel
theorem dX8_guard_46 : decode cX8_guard 46 = .ok (.getfield 13, 3) := by decide +kernel
theorem dX8_guard_49 : decode cX8_guard 49 = .ok (.iload_n 1, 1) := by decide +kernel
theorem dX8_guard_50 : decode cX8_guard 50 = .ok (.iaload, 1) := by decide +kernel
theorem dX8_guard_51 : decode cX8_guard 51 = .ok (.iadd, 1) := by decide +kernel
theorem dX8_guard_52 : decode cX8_guard 52 = .ok (.istore 6, 2) := by decide +kernel
theorem dX8_guard_54 : decode cX8_guard 54 = .ok (.aload_n 0, 1) := by decide +kernel
theorem dX8_guard_55 : decode cX8_guard 55 = .ok (.getfield 16, 3) := by decide +kernel
theorem dX8_guard_58 : decode cX8_guard 58 = .ok (.iload 6, 2) := by decide +kernel
theorem dX8_guard_60 : decode cX8_guard 60 = .ok (.iload_n 2, 1) := by decide +kernel
theorem dX8_guard_61 : decode cX8_guard 61 = .ok (.iastore, 1) := by decide +kernel
theorem dX8_guard_62 : decode cX8_guard 62 = .ok (.aload_n 0, 1) := by decide +kernel
theorem dX8_guard_63 : decode cX8_guard 63 = .ok (.getfield 19, 3) := by decide +kernel
theorem dX8_guard_66 : decode cX8_guard 66 = .ok (.iload 6, 2) := by decide +kernel
theorem dX8_guard_68 : decode cX8_guard 68 = .ok (.iload_n 3, 1) := by decide +kernel
theorem dX8_guard_69 : decode cX8_guard 69 = .ok (.iastore, 1) := by decide +kernel
theorem dX8_guard_70 : decode cX8_guard 70 = .ok (.aload_n 0, 1) := by decide +kernel
theorem dX8_guard_71 : decode cX8_guard 71 = .ok (.getfield 22, 3) := by decide +kernel
theorem dX8_guard_74 : decode cX8_guard 74 = .ok (.iload 6, 2) := by decide +kernel
theorem dX8_guard_76 : decode cX8_guard 76 = .ok (.iload 4, 2) := by decide +kernel
theorem dX8_guard_78 : decode cX8_guard 78 = .ok (.iastore, 1) := by decide +kernel
theorem dX8_guard_79 : decode cX8_guard 79 = .ok (.aload_n 0, 1) := by decide +kernel
theorem dX8_guard_80 : decode cX8_guard 80 = .ok (.getfield 25, 3) := by decide +kernel
theorem dX8_guard_83 : decode cX8_guard 83 = .ok (.iload 6, 2) := by decide +kernel
theorem dX8_guard_85 : decode cX8_guard 85 = .ok (.iload 5, 2) := by decide +kernel
theorem dX8_guard_87 : decode cX8_guard 87 = .ok (.bastore, 1) := by decide +kernel
theorem dX8_guard_88 : decode cX8_guard 88 = .ok (.aload_n 0, 1) := by decide +kernel
theorem dX8_guard_89 : decode cX8_guard 89 = .ok (.getfield 13, 3) := by decide +kernel
theorem dX8_guard_92 : decode cX8_guard 92 = .ok (.iload_n 1, 1) := by decide +kernel
theorem dX8_guard_93 : decode cX8_guard 93 = .ok (.dup2, 1) := by decide +kernel
theorem dX8_guard_94 : decode cX8_guard 94 = .ok (.iaload, 1) := by decide +kernel
theorem dX8_guard_95 : decode cX8_guard 95 = .ok (.iconst 1, 1) := by decide +kernel
theorem dX8_guard_96 : decode cX8_guard 96 = .ok (.iadd, 1) := by decide +kernel
theorem dX8_guard_97 : decode cX8_guard 97 = .ok (.iastore, 1) := by decide +kernel
theorem dX8_guard_98 : decode cX8_guard 98 = .ok (.iconst 1, 1) := by decide +kernel
theorem dX8_guard_99 : decode cX8_guard 99 = .ok (.ireturn, 1) := by decide +kernel
theorem dX8_timeout_0 : decode cX8_timeout 0 = .ok (.aload_n 0, 1) := by decide +kernel
theorem dX8_timeout_1 : decode cX8_timeout 1 = .ok (.iload_n 1, 1) := by decide +kernel
theorem dX8_timeout_2 : decode cX8_timeout 2 = .ok (.iconst 1, 1) := by decide +kernel
theorem dX8_timeout_3 : decode cX8_timeout 3 = .ok (.invokevirtual 118, 3) := by decide +kernel
theorem dX8_timeout_6 : decode cX8_timeout 6 = .ok (.ifCond .eq 14, 3) := by decide +kernel
theorem dX8_timeout_9 : decode cX8_timeout 9 = .ok (.iload_n 2, 1) := by decide +kernel
theorem dX8_timeout_10 : decode cX8_timeout 10 = .ok (.ifCond .lt 10, 3) := by decide +kernel
theorem dX8_timeout_13 : decode cX8_timeout 13 = .ok (.iload_n 2, 1) := by decide +kernel
theorem dX8_timeout_14 : decode cX8_timeout 14 = .ok (.sipush 1000, 3) := by decide +kernel
theorem dX8_timeout_17 : decode cX8_timeout 17 = .ok (.if_icmp .le 5, 3) := by decide +kernel
theorem dX8_timeout_20 : decode cX8_timeout 20 = .ok (.iconst 0, 1) := by decide +kernel
theorem dX8_timeout_21 : decode cX8_timeout 21 = .ok (.ireturn, 1) := by decide +kernel
theorem dX8_timeout_22 : decode cX8_timeout 22 = .ok (.aload_n 0, 1) := by decide +kernel
theorem dX8_timeout_23 : decode cX8_timeout 23 = .ok (.getfield 29, 3) := by decide +kernel
theorem dX8_timeout_26 : decode cX8_timeout 26 = .ok (.iload_n 1, 1) := by decide +kernel
theorem dX8_timeout_27 : decode cX8_timeout 27 = .ok (.iload_n 2, 1) := by decide +kernel
theorem dX8_timeout_28 : decode cX8_timeout 28 = .ok (.iastore, 1) := by decide +kernel
theorem dX8_timeout_29 : decode cX8_timeout 29 = .ok (.iconst 1, 1) := by decide +kernel
theorem dX8_timeout_30 : decode cX8_timeout 30 = .ok (.ireturn, 1) := by decide +kernel
theorem dX8_onBehind_0 : decode cX8_onBehind 0 = .ok (.iload_n 2, 1) := by decide +kernel
theorem dX8_onBehind_1 : decode cX8_onBehind 1 = .ok (.iconst 1, 1) := by decide +kernel
theorem dX8_onBehind_2 : decode cX8_onBehind 2 = .ok (.iadd, 1) := by decide +kernel
theorem dX8_onBehind_3 : decode cX8_onBehind 3 = .ok (.istore_n 3, 1) := by decide +kernel
theorem dX8_onBehind_4 : decode cX8_onBehind 4 = .ok (.iload_n 3, 1) := by decide +kernel
theorem dX8_onBehind_5 : decode cX8_onBehind 5 = .ok (.aload_n 0, 1) := by decide +kernel
theorem dX8_onBehind_6 : decode cX8_onBehind 6 = .ok (.getfield 13, 3) := by decide +kernel
theorem dX8_onBehind_9 : decode cX8_onBehind 9 = .ok (.iload_n 1, 1) := by decide +kernel
theorem dX8_onBehind_10 : decode cX8_onBehind 10 = .ok (.iaload, 1) := by decide +kernel
theorem dX8_onBehind_11 : decode cX8_onBehind 11 = .ok (.if_icmp .ge 23, 3) := by decide +kernel
theorem dX8_onBehind_14 : decode cX8_onBehind 14 = .ok (.aload_n 0, 1) := by decide +kernel
theorem dX8_onBehind_15 : decode cX8_onBehind 15 = .ok (.getfield 25, 3) := by decide +kernel
theorem dX8_onBehind_18 : decode cX8_onBehind 18 = .ok (.bipush 8, 2) := by decide +kernel
theorem dX8_onBehind_20 : decode cX8_onBehind 20 = .ok (.iload_n 1, 1) := by decide +kernel
theorem dX8_onBehind_21 : decode cX8_onBehind 21 = .ok (.imul, 1) := by decide +kernel
theorem dX8_onBehind_22 : decode cX8_onBehind 22 = .ok (.iload_n 3, 1) := by decide +kernel
theorem dX8_onBehind_23 : decode cX8_onBehind 23 = .ok (.iadd, 1) := by decide +kernel
theorem dX8_onBehind_24 : decode cX8_onBehind 24 = .ok (.baload, 1) := by decide +kernel
theorem dX8_onBehind_25 : decode cX8_onBehind 25 = .ok (.ifCond .ne 9, 3) := by decide +kernel
theorem dX8_onBehind_28 : decode cX8_onBehind 28 = .ok (.iinc 3 1, 3) := by decide +kernel
theorem dX8_onBehind_31 : decode cX8_onBehind 31 = .ok (.goto (-27), 3) := by decide +kernel
theorem dX8_onBehind_34 : decode cX8_onBehind 34 = .ok (.iload_n 3, 1) := by decide +kernel
theorem dX8_onBehind_35 : decode cX8_onBehind 35 = .ok (.aload_n 0, 1) := by decide +kernel
theorem dX8_onBehind_36 : decode cX8_onBehind 36 = .ok (.getfield 13, 3) := by decide +kernel
theorem dX8_onBehind_39 : decode cX8_onBehind 39 = .ok (.iload_n 1, 1) := by decide +kernel
theorem dX8_onBehind_40 : decode cX8_onBehind 40 = .ok (.iaload, 1) := by decide +kernel
theorem dX8_onBehind_41 : decode cX8_onBehind 41 = .ok (.if_icmp .ge 7, 3) := by decide +kernel
theorem dX8_onBehind_44 : decode cX8_onBehind 44 = .ok (.iload_n 3, 1) := by decide +kernel
theorem dX8_onBehind_45 : decode cX8_onBehind 45 = .ok (.goto 4, 3) := by decide +kernel
theorem dX8_onBehind_48 : decode cX8_onBehind 48 = .ok (.iconst (-1), 1) := by decide +kernel
theorem dX8_onBehind_49 : decode cX8_onBehind 49 = .ok (.ireturn, 1) := by decide +kernel
theorem dX8_offer_0 : decode cX8_offer 0 = .ok (.aload_n 0, 1) := by decide +kernel
theorem dX8_offer_1 : decode cX8_offer 1 = .ok (.iload_n 1, 1) := by decide +kernel
theorem dX8_offer_2 : decode cX8_offer 2 = .ok (.iconst 1, 1) := by decide +kernel
theorem dX8_offer_3 : decode cX8_offer 3 = .ok (.invokevirtual 118, 3) := by decide +kernel
theorem dX8_offer_6 : decode cX8_offer 6 = .ok (.ifCond .eq 15, 3) := by decide +kernel
theorem dX8_offer_9 : decode cX8_offer 9 = .ok (.aload_n 0, 1) := by decide +kernel
theorem dX8_offer_10 : decode cX8_offer 10 = .ok (.getfield 38, 3) := by decide +kernel
theorem dX8_offer_13 : decode cX8_offer 13 = .ok (.iload_n 1, 1) := by decide +kernel
theorem dX8_offer_14 : decode cX8_offer 14 = .ok (.iaload, 1) := by decide +kernel
theorem dX8_offer_15 : decode cX8_offer 15 = .ok (.sipush 1000, 3) := by decide +kernel
theorem dX8_offer_18 : decode cX8_offer 18 = .ok (.if_icmp .ne 5, 3) := by decide +kernel
theorem dX8_offer_21 : decode cX8_offer 21 = .ok (.iconst 0, 1) := by decide +kernel
theorem dX8_offer_22 : decode cX8_offer 22 = .ok (.ireturn, 1) := by decide +kernel
theorem dX8_offer_23 : decode cX8_offer 23 = .ok (.aload_n 0, 1) := by decide +kernel
theorem dX8_offer_24 : decode cX8_offer 24 = .ok (.getfield 38, 3) := by decide +kernel
theorem dX8_offer_27 : decode cX8_offer 27 = .ok (.iload_n 1, 1) := by decide +kernel
theorem dX8_offer_28 : decode cX8_offer 28 = .ok (.dup2, 1) := by decide +kernel
theorem dX8_offer_29 : decode cX8_offer 29 = .ok (.iaload, 1) := by decide +kernel
theorem dX8_offer_30 : decode cX8_offer 30 = .ok (.iconst 1, 1) := by decide +kernel
theorem dX8_offer_31 : decode cX8_offer 31 = .ok (.iadd, 1) := by decide +kernel
theorem dX8_offer_32 : decode cX8_offer 32 = .ok (.iastore, 1) := by decide +kernel
theorem dX8_offer_33 : decode cX8_offer 33 = .ok (.aload_n 0, 1) := by decide +kernel
theorem dX8_offer_34 : decode cX8_offer 34 = .ok (.getfield 35, 3) := by decide +kernel
theorem dX8_offer_37 : decode cX8_offer 37 = .ok (.iload_n 1, 1) := by decide +kernel
theorem dX8_offer_38 : decode cX8_offer 38 = .ok (.iconst 1, 1) := by decide +kernel
theorem dX8_offer_39 : decode cX8_offer 39 = .ok (.iastore, 1) := by decide +kernel
theorem dX8_offer_40 : decode cX8_offer 40 = .ok (.aload_n 0, 1) := by decide +kernel
theorem dX8_offer_41 : decode cX8_offer 41 = .ok (.getfield 50, 3) := by decide +kernel
theorem dX8_offer_44 : decode cX8_offer 44 = .ok (.iload_n 1, 1) := by decide +kernel
theorem dX8_offer_45 : decode cX8_offer 45 = .ok (.iconst 0, 1) := by decide +kernel
theorem dX8_offer_46 : decode cX8_offer 46 = .ok (.bastore, 1) := by decide +kernel
theorem dX8_offer_47 : decode cX8_offer 47 = .ok (.aload_n 0, 1) := by decide +kernel
theorem dX8_offer_48 : decode cX8_offer 48 = .ok (.getfield 65, 3) := by decide +kernel
theorem dX8_offer_51 : decode cX8_offer 51 = .ok (.iload_n 1, 1) := by decide +kernel
theorem dX8_offer_52 : decode cX8_offer 52 = .ok (.iconst 0, 1) := by decide +kernel
theorem dX8_offer_53 : decode cX8_offer 53 = .ok (.bastore, 1) := by decide +kernel
theorem dX8_offer_54 : decode cX8_offer 54 = .ok (.aload_n 0, 1) := by decide +kernel
theorem dX8_offer_55 : decode cX8_offer 55 = .ok (.getfield 62, 3) := by decide +kernel
theorem dX8_offer_58 : decode cX8_offer 58 = .ok (.iload_n 1, 1) := by decide +kernel
theorem dX8_offer_59 : decode cX8_offer 59 = .ok (.iconst 0, 1) := by decide +kernel
theorem dX8_offer_60 : decode cX8_offer 60 = .ok (.bastore, 1) := by decide +kernel
theorem dX8_offer_61 : decode cX8_offer 61 = .ok (.aload_n 0, 1) := by decide +kernel
theorem dX8_offer_62 : decode cX8_offer 62 = .ok (.getfield 44, 3) := by decide +kernel
theorem dX8_offer_65 : decode cX8_offer 65 = .ok (.iload_n 1, 1) := by decide +kernel
theorem dX8_offer_66 : decode cX8_offer 66 = .ok (.aload_n 0, 1) := by decide +kernel
theorem dX8_offer_67 : decode cX8_offer 67 = .ok (.iload_n 1, 1) := by decide +kernel
theorem dX8_offer_68 : decode cX8_offer 68 = .ok (.iconst (-1), 1) := by decide +kernel
theorem dX8_offer_69 : decode cX8_offer 69 = .ok (.invokevirtual 126, 3) := by decide +kernel
theorem dX8_offer_72 : decode cX8_offer 72 = .ok (.iastore, 1) := by decide +kernel
theorem dX8_offer_73 : decode cX8_offer 73 = .ok (.aload_n 0, 1) := by decide +kernel
theorem dX8_offer_74 : decode cX8_offer 74 = .ok (.getfield 9, 3) := by decide +kernel
theorem dX8_offer_77 : decode cX8_offer 77 = .ok (.iload_n 1, 1) := by decide +kernel
theorem dX8_offer_78 : decode cX8_offer 78 = .ok (.aload_n 0, 1) := by decide +kernel
theorem dX8_offer_79 : decode cX8_offer 79 = .ok (.getfield 44, 3) := by decide +kernel
theorem dX8_offer_82 : decode cX8_offer 82 = .ok (.iload_n 1, 1) := by decide +kernel
theorem dX8_offer_83 : decode cX8_offer 83 = .ok (.iaload, 1) := by decide +kernel
theorem dX8_offer_84 : decode cX8_offer 84 = .ok (.iconst (-1), 1) := by decide +kernel
theorem dX8_offer_85 : decode cX8_offer 85 = .ok (.if_icmp .ne 8, 3) := by decide +kernel
theorem dX8_offer_88 : decode cX8_offer 88 = .ok (.bipush 9, 2) := by decide +kernel
theorem dX8_offer_90 : decode cX8_offer 90 = .ok (.goto 4, 3) := by decide +kernel
theorem dX8_offer_93 : decode cX8_offer 93 = .ok (.iconst 2, 1) := by decide +kernel
theorem dX8_offer_94 : decode cX8_offer 94 = .ok (.iastore, 1) := by decide +kernel
theorem dX8_offer_95 : decode cX8_offer 95 = .ok (.aload_n 0, 1) := by decide +kernel
theorem dX8_offer_96 : decode cX8_offer 96 = .ok (.getfield 32, 3) := by decide +kernel
theorem dX8_offer_99 : decode cX8_offer 99 = .ok (.iload_n 1, 1) := by decide +kernel
theorem dX8_offer_100 : decode cX8_offer 100 = .ok (.aload_n 0, 1) := by decide +kernel
theorem dX8_offer_101 : decode cX8_offer 101 = .ok (.getfield 29, 3) := by decide +kernel
theorem dX8_offer_104 : decode cX8_offer 104 = .ok (.iload_n 1, 1) := by decide +kernel
theorem dX8_offer_105 : decode cX8_offer 105 = .ok (.iaload, 1) := by decide +kernel
theorem dX8_offer_106 : decode cX8_offer 106 = .ok (.ifCond .le 17, 3) := by decide +kernel
theorem dX8_offer_109 : decode cX8_offer 109 = .ok (.aload_n 0, 1) := by decide +kernel
theorem dX8_offer_110 : decode cX8_offer 110 = .ok (.getfield 130, 3) := by decide +kernel
theorem dX8_offer_113 : decode cX8_offer 113 = .ok (.aload_n 0, 1) := by decide +kernel
theorem dX8_offer_114 : decode cX8_offer 114 = .ok (.getfield 29, 3) := by decide +kernel
theorem dX8_offer_117 : decode cX8_offer 117 = .ok (.iload_n 1, 1) := by decide +kernel
theorem dX8_offer_118 : decode cX8_offer 118 = .ok (.iaload, 1) := by decide +kernel
theorem dX8_offer_119 : decode cX8_offer 119 = .ok (.iadd, 1) := by decide +kernel
theorem dX8_offer_120 : decode cX8_offer 120 = .ok (.goto 4, 3) := by decide +kernel
theorem dX8_offer_123 : decode cX8_offer 123 = .ok (.iconst (-1), 1) := by decide +kernel
theorem dX8_offer_124 : decode cX8_offer 124 = .ok (.iastore, 1) := by decide +kernel
theorem dX8_offer_125 : decode cX8_offer 125 = .ok (.iconst 1, 1) := by decide +kernel
theorem dX8_offer_126 : decode cX8_offer 126 = .ok (.ireturn, 1) := by decide +kernel
theorem dX8_publishes_0 : decode cX8_publishes 0 = .ok (.bipush 8, 2) := by decide +kernel
theorem dX8_publishes_2 : decode cX8_publishes 2 = .ok (.iload_n 1, 1) := by decide +kernel
theorem dX8_publishes_3 : decode cX8_publishes 3 = .ok (.imul, 1) := by decide +kernel
theorem dX8_publishes_4 : decode cX8_publishes 4 = .ok (.aload_n 0, 1) := by decide +kernel
theorem dX8_publishes_5 : decode cX8_publishes 5 = .ok (.getfield 44, 3) := by decide +kernel
theorem dX8_publishes_8 : decode cX8_publishes 8 = .ok (.iload_n 1, 1) := by decide +kernel
theorem dX8_publishes_9 : decode cX8_publishes 9 = .ok (.iaload, 1) := by decide +kernel
theorem dX8_publishes_10 : decode cX8_publishes 10 = .ok (.iadd, 1) := by decide +kernel
theorem dX8_publishes_11 : decode cX8_publishes 11 = .ok (.istore_n 2, 1) := by decide +kernel
theorem dX8_publishes_12 : decode cX8_publishes 12 = .ok (.aload_n 0, 1) := by decide +kernel
theorem dX8_publishes_13 : decode cX8_publishes 13 = .ok (.dup, 1) := by decide +kernel
theorem dX8_publishes_14 : decode cX8_publishes 14 = .ok (.getfield 133, 3) := by decide +kernel
theorem dX8_publishes_17 : decode cX8_publishes 17 = .ok (.iconst 1, 1) := by decide +kernel
theorem dX8_publishes_18 : decode cX8_publishes 18 = .ok (.iadd, 1) := by decide +kernel
theorem dX8_publishes_19 : decode cX8_publishes 19 = .ok (.putfield 133, 3) := by decide +kernel
theorem dX8_publishes_22 : decode cX8_publishes 22 = .ok (.aload_n 0, 1) := by decide +kernel
theorem dX8_publishes_23 : decode cX8_publishes 23 = .ok (.getfield 83, 3) := by decide +kernel
theorem dX8_publishes_26 : decode cX8_publishes 26 = .ok (.aload_n 0, 1) := by decide +kernel
theorem dX8_publishes_27 : decode cX8_publishes 27 = .ok (.getfield 136, 3) := by decide +kernel
theorem dX8_publishes_30 : decode cX8_publishes 30 = .ok (.iload_n 1, 1) := by decide +kernel
theorem dX8_publishes_31 : decode cX8_publishes 31 = .ok (.iastore, 1) := by decide +kernel
theorem dX8_publishes_32 : decode cX8_publishes 32 = .ok (.aload_n 0, 1) := by decide +kernel
theorem dX8_publishes_33 : decode cX8_publishes 33 = .ok (.getfield 86, 3) := by decide +kernel
theorem dX8_publishes_36 : decode cX8_publishes 36 = .ok (.aload_n 0, 1) := by decide +kernel
theorem dX8_publishes_37 : decode cX8_publishes 37 = .ok (.getfield 136, 3) := by decide +kernel
theorem dX8_publishes_40 : decode cX8_publishes 40 = .ok (.aload_n 0, 1) := by decide +kernel
theorem dX8_publishes_41 : decode cX8_publishes 41 = .ok (.getfield 38, 3) := by decide +kernel
theorem dX8_publishes_44 : decode cX8_publishes 44 = .ok (.iload_n 1, 1) := by decide +kernel
theorem dX8_publishes_45 : decode cX8_publishes 45 = .ok (.iaload, 1) := by decide +kernel
theorem dX8_publishes_46 : decode cX8_publishes 46 = .ok (.iastore, 1) := by decide +kernel
theorem dX8_publishes_47 : decode cX8_publishes 47 = .ok (.aload_n 0, 1) := by decide +kernel
theorem dX8_publishes_48 : decode cX8_publishes 48 = .ok (.getfield 89, 3) := by decide +kernel
theorem dX8_publishes_51 : decode cX8_publishes 51 = .ok (.aload_n 0, 1) := by decide +kernel
theorem dX8_publishes_52 : decode cX8_publishes 52 = .ok (.getfield 136, 3) := by decide +kernel
theorem dX8_publishes_55 : decode cX8_publishes 55 = .ok (.aload_n 0, 1) := by decide +kernel
theorem dX8_publishes_56 : decode cX8_publishes 56 = .ok (.getfield 16, 3) := by decide +kernel
theorem dX8_publishes_59 : decode cX8_publishes 59 = .ok (.iload_n 2, 1) := by decide +kernel
theorem dX8_publishes_60 : decode cX8_publishes 60 = .ok (.iaload, 1) := by decide +kernel
theorem dX8_publishes_61 : decode cX8_publishes 61 = .ok (.iastore, 1) := by decide +kernel
theorem dX8_publishes_62 : decode cX8_publishes 62 = .ok (.aload_n 0, 1) := by decide +kernel
theorem dX8_publishes_63 : decode cX8_publishes 63 = .ok (.getfield 92, 3) := by decide +kernel
theorem dX8_publishes_66 : decode cX8_publishes 66 = .ok (.aload_n 0, 1) := by decide +kernel
theorem dX8_publishes_67 : decode cX8_publishes 67 = .ok (.getfield 136, 3) := by decide +kernel
theorem dX8_publishes_70 : decode cX8_publishes 70 = .ok (.aload_n 0, 1) := by decide +kernel
theorem dX8_publishes_71 : decode cX8_publishes 71 = .ok (.getfield 22, 3) := by decide +kernel
theorem dX8_publishes_74 : decode cX8_publishes 74 = .ok (.iload_n 2, 1) := by decide +kernel
theorem dX8_publishes_75 : decode cX8_publishes 75 = .ok (.iaload, 1) := by decide +kernel
theorem dX8_publishes_76 : decode cX8_publishes 76 = .ok (.iastore, 1) := by decide +kernel
theorem dX8_publishes_77 : decode cX8_publishes 77 = .ok (.aload_n 0, 1) := by decide +kernel
theorem dX8_publishes_78 : decode cX8_publishes 78 = .ok (.getfield 95, 3) := by decide +kernel
theorem dX8_publishes_81 : decode cX8_publishes 81 = .ok (.aload_n 0, 1) := by decide +kernel
theorem dX8_publishes_82 : decode cX8_publishes 82 = .ok (.getfield 136, 3) := by decide +kernel
theorem dX8_publishes_85 : decode cX8_publishes 85 = .ok (.aload_n 0, 1) := by decide +kernel
theorem dX8_publishes_86 : decode cX8_publishes 86 = .ok (.getfield 133, 3) := by decide +kernel
theorem dX8_publishes_89 : decode cX8_publishes 89 = .ok (.iastore, 1) := by decide +kernel
theorem dX8_publishes_90 : decode cX8_publishes 90 = .ok (.aload_n 0, 1) := by decide +kernel
theorem dX8_publishes_91 : decode cX8_publishes 91 = .ok (.getfield 98, 3) := by decide +kernel
theorem dX8_publishes_94 : decode cX8_publishes 94 = .ok (.aload_n 0, 1) := by decide +kernel
theorem dX8_publishes_95 : decode cX8_publishes 95 = .ok (.getfield 136, 3) := by decide +kernel
theorem dX8_publishes_98 : decode cX8_publishes 98 = .ok (.aload_n 0, 1) := by decide +kernel
theorem dX8_publishes_99 : decode cX8_publishes 99 = .ok (.getfield 19, 3) := by decide +kernel
theorem dX8_publishes_102 : decode cX8_publishes 102 = .ok (.iload_n 2, 1) := by decide +kernel
theorem dX8_publishes_103 : decode cX8_publishes 103 = .ok (.iaload, 1) := by decide +kernel
theorem dX8_publishes_104 : decode cX8_publishes 104 = .ok (.iastore, 1) := by decide +kernel
theorem dX8_publishes_105 : decode cX8_publishes 105 = .ok (.aload_n 0, 1) := by decide +kernel
theorem dX8_publishes_106 : decode cX8_publishes 106 = .ok (.dup, 1) := by decide +kernel
theorem dX8_publishes_107 : decode cX8_publishes 107 = .ok (.getfield 136, 3) := by decide +kernel
theorem dX8_publishes_110 : decode cX8_publishes 110 = .ok (.iconst 1, 1) := by decide +kernel
theorem dX8_publishes_111 : decode cX8_publishes 111 = .ok (.iadd, 1) := by decide +kernel
theorem dX8_publishes_112 : decode cX8_publishes 112 = .ok (.putfield 136, 3) := by decide +kernel
theorem dX8_publishes_115 : decode cX8_publishes 115 = .ok (.return_, 1) := by decide +kernel
theorem dX8_ownEntry_0 : decode cX8_ownEntry 0 = .ok (.iconst 0, 1) := by decide +kernel
theorem dX8_ownEntry_1 : decode cX8_ownEntry 1 = .ok (.istore_n 2, 1) := by decide +kernel
theorem dX8_ownEntry_2 : decode cX8_ownEntry 2 = .ok (.iload_n 2, 1) := by decide +kernel
theorem dX8_ownEntry_3 : decode cX8_ownEntry 3 = .ok (.aload_n 0, 1) := by decide +kernel
theorem dX8_ownEntry_4 : decode cX8_ownEntry 4 = .ok (.getfield 136, 3) := by decide +kernel
theorem dX8_ownEntry_7 : decode cX8_ownEntry 7 = .ok (.if_icmp .ge 21, 3) := by decide +kernel
theorem dX8_ownEntry_10 : decode cX8_ownEntry 10 = .ok (.aload_n 0, 1) := by decide +kernel
theorem dX8_ownEntry_11 : decode cX8_ownEntry 11 = .ok (.getfield 83, 3) := by decide +kernel
theorem dX8_ownEntry_14 : decode cX8_ownEntry 14 = .ok (.iload_n 2, 1) := by decide +kernel
theorem dX8_ownEntry_15 : decode cX8_ownEntry 15 = .ok (.iaload, 1) := by decide +kernel
theorem dX8_ownEntry_16 : decode cX8_ownEntry 16 = .ok (.iload_n 1, 1) := by decide +kernel
theorem dX8_ownEntry_17 : decode cX8_ownEntry 17 = .ok (.if_icmp .ne 5, 3) := by decide +kernel
theorem dX8_ownEntry_20 : decode cX8_ownEntry 20 = .ok (.iload_n 2, 1) := by decide +kernel
theorem dX8_ownEntry_21 : decode cX8_ownEntry 21 = .ok (.ireturn, 1) := by decide +kernel
theorem dX8_ownEntry_22 : decode cX8_ownEntry 22 = .ok (.iinc 2 1, 3) := by decide +kernel
theorem dX8_ownEntry_25 : decode cX8_ownEntry 25 = .ok (.goto (-23), 3) := by decide +kernel
theorem dX8_ownEntry_28 : decode cX8_ownEntry 28 = .ok (.iconst (-1), 1) := by decide +kernel
theorem dX8_ownEntry_29 : decode cX8_ownEntry 29 = .ok (.ireturn, 1) := by decide +kernel
theorem dX8_removes_0 : decode cX8_removes 0 = .ok (.aload_n 0, 1) := by decide +kernel
theorem dX8_removes_1 : decode cX8_removes 1 = .ok (.dup, 1) := by decide +kernel
theorem dX8_removes_2 : decode cX8_removes 2 = .ok (.getfield 136, 3) := by decide +kernel
theorem dX8_removes_5 : decode cX8_removes 5 = .ok (.iconst 1, 1) := by decide +kernel
theorem dX8_removes_6 : decode cX8_removes 6 = .ok (.isub, 1) := by decide +kernel
theorem dX8_removes_7 : decode cX8_removes 7 = .ok (.putfield 136, 3) := by decide +kernel
theorem dX8_removes_10 : decode cX8_removes 10 = .ok (.iload_n 1, 1) := by decide +kernel
theorem dX8_removes_11 : decode cX8_removes 11 = .ok (.istore_n 2, 1) := by decide +kernel
theorem dX8_removes_12 : decode cX8_removes 12 = .ok (.iload_n 2, 1) := by decide +kernel
theorem dX8_removes_13 : decode cX8_removes 13 = .ok (.aload_n 0, 1) := by decide +kernel
theorem dX8_removes_14 : decode cX8_removes 14 = .ok (.getfield 136, 3) := by decide +kernel
theorem dX8_removes_17 : decode cX8_removes 17 = .ok (.if_icmp .ge 93, 3) := by decide +kernel
theorem dX8_removes_20 : decode cX8_removes 20 = .ok (.aload_n 0, 1) := by decide +kernel
theorem dX8_removes_21 : decode cX8_removes 21 = .ok (.getfield 83, 3) := by decide +kernel
theorem dX8_removes_24 : decode cX8_removes 24 = .ok (.iload_n 2, 1) := by decide +kernel
theorem dX8_removes_25 : decode cX8_removes 25 = .ok (.aload_n 0, 1) := by decide +kernel
theorem dX8_removes_26 : decode cX8_removes 26 = .ok (.getfield 83, 3) := by decide +kernel
theorem dX8_removes_29 : decode cX8_removes 29 = .ok (.iload_n 2, 1) := by decide +kernel
theorem dX8_removes_30 : decode cX8_removes 30 = .ok (.iconst 1, 1) := by decide +kernel
theorem dX8_removes_31 : decode cX8_removes 31 = .ok (.iadd, 1) := by decide +kernel
theorem dX8_removes_32 : decode cX8_removes 32 = .ok (.iaload, 1) := by decide +kernel
theorem dX8_removes_33 : decode cX8_removes 33 = .ok (.iastore, 1) := by decide +kernel
theorem dX8_removes_34 : decode cX8_removes 34 = .ok (.aload_n 0, 1) := by decide +kernel
theorem dX8_removes_35 : decode cX8_removes 35 = .ok (.getfield 86, 3) := by decide +kernel
theorem dX8_removes_38 : decode cX8_removes 38 = .ok (.iload_n 2, 1) := by decide +kernel
theorem dX8_removes_39 : decode cX8_removes 39 = .ok (.aload_n 0, 1) := by decide +kernel
theorem dX8_removes_40 : decode cX8_removes 40 = .ok (.getfield 86, 3) := by decide +kernel
theorem dX8_removes_43 : decode cX8_removes 43 = .ok (.iload_n 2, 1) := by decide +kernel
theorem dX8_removes_44 : decode cX8_removes 44 = .ok (.iconst 1, 1) := by decide +kernel
theorem dX8_removes_45 : decode cX8_removes 45 = .ok (.iadd, 1) := by decide +kernel
theorem dX8_removes_46 : decode cX8_removes 46 = .ok (.iaload, 1) := by decide +kernel
theorem dX8_removes_47 : decode cX8_removes 47 = .ok (.iastore, 1) := by decide +kernel
theorem dX8_removes_48 : decode cX8_removes 48 = .ok (.aload_n 0, 1) := by decide +kernel
theorem dX8_removes_49 : decode cX8_removes 49 = .ok (.getfield 89, 3) := by decide +kernel
theorem dX8_removes_52 : decode cX8_removes 52 = .ok (.iload_n 2, 1) := by decide +kernel
theorem dX8_removes_53 : decode cX8_removes 53 = .ok (.aload_n 0, 1) := by decide +kernel
theorem dX8_removes_54 : decode cX8_removes 54 = .ok (.getfield 89, 3) := by decide +kernel
theorem dX8_removes_57 : decode cX8_removes 57 = .ok (.iload_n 2, 1) := by decide +kernel
theorem dX8_removes_58 : decode cX8_removes 58 = .ok (.iconst 1, 1) := by decide +kernel
theorem dX8_removes_59 : decode cX8_removes 59 = .ok (.iadd, 1) := by decide +kernel
theorem dX8_removes_60 : decode cX8_removes 60 = .ok (.iaload, 1) := by decide +kernel
theorem dX8_removes_61 : decode cX8_removes 61 = .ok (.iastore, 1) := by decide +kernel
theorem dX8_removes_62 : decode cX8_removes 62 = .ok (.aload_n 0, 1) := by decide +kernel
theorem dX8_removes_63 : decode cX8_removes 63 = .ok (.getfield 92, 3) := by decide +kernel
theorem dX8_removes_66 : decode cX8_removes 66 = .ok (.iload_n 2, 1) := by decide +kernel
theorem dX8_removes_67 : decode cX8_removes 67 = .ok (.aload_n 0, 1) := by decide +kernel
theorem dX8_removes_68 : decode cX8_removes 68 = .ok (.getfield 92, 3) := by decide +kernel
theorem dX8_removes_71 : decode cX8_removes 71 = .ok (.iload_n 2, 1) := by decide +kernel
theorem dX8_removes_72 : decode cX8_removes 72 = .ok (.iconst 1, 1) := by decide +kernel
theorem dX8_removes_73 : decode cX8_removes 73 = .ok (.iadd, 1) := by decide +kernel
theorem dX8_removes_74 : decode cX8_removes 74 = .ok (.iaload, 1) := by decide +kernel
theorem dX8_removes_75 : decode cX8_removes 75 = .ok (.iastore, 1) := by decide +kernel
theorem dX8_removes_76 : decode cX8_removes 76 = .ok (.aload_n 0, 1) := by decide +kernel
theorem dX8_removes_77 : decode cX8_removes 77 = .ok (.getfield 95, 3) := by decide +kernel
theorem dX8_removes_80 : decode cX8_removes 80 = .ok (.iload_n 2, 1) := by decide +kernel
theorem dX8_removes_81 : decode cX8_removes 81 = .ok (.aload_n 0, 1) := by decide +kernel
theorem dX8_removes_82 : decode cX8_removes 82 = .ok (.getfield 95, 3) := by decide +kernel
theorem dX8_removes_85 : decode cX8_removes 85 = .ok (.iload_n 2, 1) := by decide +kernel
theorem dX8_removes_86 : decode cX8_removes 86 = .ok (.iconst 1, 1) := by decide +kernel
theorem dX8_removes_87 : decode cX8_removes 87 = .ok (.iadd, 1) := by decide +kernel
theorem dX8_removes_88 : decode cX8_removes 88 = .ok (.iaload, 1) := by decide +kernel
theorem dX8_removes_89 : decode cX8_removes 89 = .ok (.iastore, 1) := by decide +kernel
theorem dX8_removes_90 : decode cX8_removes 90 = .ok (.aload_n 0, 1) := by decide +kernel
theorem dX8_removes_91 : decode cX8_removes 91 = .ok (.getfield 98, 3) := by decide +kernel
theorem dX8_removes_94 : decode cX8_removes 94 = .ok (.iload_n 2, 1) := by decide +kernel
theorem dX8_removes_95 : decode cX8_removes 95 = .ok (.aload_n 0, 1) := by decide +kernel
theorem dX8_removes_96 : decode cX8_removes 96 = .ok (.getfield 98, 3) := by decide +kernel
theorem dX8_removes_99 : decode cX8_removes 99 = .ok (.iload_n 2, 1) := by decide +kernel
theorem dX8_removes_100 : decode cX8_removes 100 = .ok (.iconst 1, 1) := by decide +kernel
theorem dX8_removes_101 : decode cX8_removes 101 = .ok (.iadd, 1) := by decide +kernel
theorem dX8_removes_102 : decode cX8_removes 102 = .ok (.iaload, 1) := by decide +kernel
theorem dX8_removes_103 : decode cX8_removes 103 = .ok (.iastore, 1) := by decide +kernel
theorem dX8_removes_104 : decode cX8_removes 104 = .ok (.iinc 2 1, 3) := by decide +kernel
theorem dX8_removes_107 : decode cX8_removes 107 = .ok (.goto (-95), 3) := by decide +kernel
theorem dX8_removes_110 : decode cX8_removes 110 = .ok (.return_, 1) := by decide +kernel
theorem dX8_withdraws_0 : decode cX8_withdraws 0 = .ok (.aload_n 0, 1) := by decide +kernel
theorem dX8_withdraws_1 : decode cX8_withdraws 1 = .ok (.getfield 9, 3) := by decide +kernel
theorem dX8_withdraws_4 : decode cX8_withdraws 4 = .ok (.iload_n 1, 1) := by decide +kernel
theorem dX8_withdraws_5 : decode cX8_withdraws 5 = .ok (.aload_n 0, 1) := by decide +kernel
theorem dX8_withdraws_6 : decode cX8_withdraws 6 = .ok (.iload_n 1, 1) := by decide +kernel
theorem dX8_withdraws_7 : decode cX8_withdraws 7 = .ok (.invokevirtual 139, 3) := by decide +kernel
theorem dX8_withdraws_10 : decode cX8_withdraws 10 = .ok (.iconst (-1), 1) := by decide +kernel
theorem dX8_withdraws_11 : decode cX8_withdraws 11 = .ok (.if_icmp .ne 8, 3) := by decide +kernel
theorem dX8_withdraws_14 : decode cX8_withdraws 14 = .ok (.bipush 12, 2) := by decide +kernel
theorem dX8_withdraws_16 : decode cX8_withdraws 16 = .ok (.goto 5, 3) := by decide +kernel
theorem dX8_withdraws_19 : decode cX8_withdraws 19 = .ok (.bipush 11, 2) := by decide +kernel
theorem dX8_withdraws_21 : decode cX8_withdraws 21 = .ok (.iastore, 1) := by decide +kernel
theorem dX8_withdraws_22 : decode cX8_withdraws 22 = .ok (.return_, 1) := by decide +kernel
theorem dX8_looksOn_0 : decode cX8_looksOn 0 = .ok (.aload_n 0, 1) := by decide +kernel
theorem dX8_looksOn_1 : decode cX8_looksOn 1 = .ok (.getfield 44, 3) := by decide +kernel
theorem dX8_looksOn_4 : decode cX8_looksOn 4 = .ok (.iload_n 1, 1) := by decide +kernel
theorem dX8_looksOn_5 : decode cX8_looksOn 5 = .ok (.iload_n 2, 1) := by decide +kernel
theorem dX8_looksOn_6 : decode cX8_looksOn 6 = .ok (.iastore, 1) := by decide +kernel
theorem dX8_looksOn_7 : decode cX8_looksOn 7 = .ok (.aload_n 0, 1) := by decide +kernel
theorem dX8_looksOn_8 : decode cX8_looksOn 8 = .ok (.getfield 47, 3) := by decide +kernel
theorem dX8_looksOn_11 : decode cX8_looksOn 11 = .ok (.iload_n 1, 1) := by decide +kernel
theorem dX8_looksOn_12 : decode cX8_looksOn 12 = .ok (.iconst 0, 1) := by decide +kernel
theorem dX8_looksOn_13 : decode cX8_looksOn 13 = .ok (.iastore, 1) := by decide +kernel
theorem dX8_looksOn_14 : decode cX8_looksOn 14 = .ok (.aload_n 0, 1) := by decide +kernel
theorem dX8_looksOn_15 : decode cX8_looksOn 15 = .ok (.getfield 9, 3) := by decide +kernel
theorem dX8_looksOn_18 : decode cX8_looksOn 18 = .ok (.iload_n 1, 1) := by decide +kernel
theorem dX8_looksOn_19 : decode cX8_looksOn 19 = .ok (.iload_n 2, 1) := by decide +kernel
theorem dX8_looksOn_20 : decode cX8_looksOn 20 = .ok (.iconst (-1), 1) := by decide +kernel
theorem dX8_looksOn_21 : decode cX8_looksOn 21 = .ok (.if_icmp .ne 8, 3) := by decide +kernel
theorem dX8_looksOn_24 : decode cX8_looksOn 24 = .ok (.bipush 9, 2) := by decide +kernel
theorem dX8_looksOn_26 : decode cX8_looksOn 26 = .ok (.goto 4, 3) := by decide +kernel
theorem dX8_looksOn_29 : decode cX8_looksOn 29 = .ok (.iconst 3, 1) := by decide +kernel
theorem dX8_looksOn_30 : decode cX8_looksOn 30 = .ok (.iastore, 1) := by decide +kernel
theorem dX8_looksOn_31 : decode cX8_looksOn 31 = .ok (.return_, 1) := by decide +kernel
theorem dX8_tries_0 : decode cX8_tries 0 = .ok (.aload_n 0, 1) := by decide +kernel
theorem dX8_tries_1 : decode cX8_tries 1 = .ok (.dup, 1) := by decide +kernel
theorem dX8_tries_2 : decode cX8_tries 2 = .ok (.getfield 143, 3) := by decide +kernel
theorem dX8_tries_5 : decode cX8_tries 5 = .ok (.iconst 1, 1) := by decide +kernel
theorem dX8_tries_6 : decode cX8_tries 6 = .ok (.iadd, 1) := by decide +kernel
theorem dX8_tries_7 : decode cX8_tries 7 = .ok (.putfield 143, 3) := by decide +kernel
theorem dX8_tries_10 : decode cX8_tries 10 = .ok (.aload_n 0, 1) := by decide +kernel
theorem dX8_tries_11 : decode cX8_tries 11 = .ok (.getfield 35, 3) := by decide +kernel
theorem dX8_tries_14 : decode cX8_tries 14 = .ok (.iload_n 2, 1) := by decide +kernel
theorem dX8_tries_15 : decode cX8_tries 15 = .ok (.iaload, 1) := by decide +kernel
theorem dX8_tries_16 : decode cX8_tries 16 = .ok (.iconst 1, 1) := by decide +kernel
theorem dX8_tries_17 : decode cX8_tries 17 = .ok (.if_icmp .ne 29, 3) := by decide +kernel
theorem dX8_tries_20 : decode cX8_tries 20 = .ok (.aload_n 0, 1) := by decide +kernel
theorem dX8_tries_21 : decode cX8_tries 21 = .ok (.getfield 38, 3) := by decide +kernel
theorem dX8_tries_24 : decode cX8_tries 24 = .ok (.iload_n 2, 1) := by decide +kernel
theorem dX8_tries_25 : decode cX8_tries 25 = .ok (.iaload, 1) := by decide +kernel
theorem dX8_tries_26 : decode cX8_tries 26 = .ok (.iload_n 3, 1) := by decide +kernel
theorem dX8_tries_27 : decode cX8_tries 27 = .ok (.if_icmp .ne 19, 3) := by decide +kernel
theorem dX8_tries_30 : decode cX8_tries 30 = .ok (.aload_n 0, 1) := by decide +kernel
theorem dX8_tries_31 : decode cX8_tries 31 = .ok (.getfield 35, 3) := by decide +kernel
theorem dX8_tries_34 : decode cX8_tries 34 = .ok (.iload_n 2, 1) := by decide +kernel
theorem dX8_tries_35 : decode cX8_tries 35 = .ok (.iconst 2, 1) := by decide +kernel
theorem dX8_tries_36 : decode cX8_tries 36 = .ok (.iastore, 1) := by decide +kernel
theorem dX8_tries_37 : decode cX8_tries 37 = .ok (.aload_n 0, 1) := by decide +kernel
theorem dX8_tries_38 : decode cX8_tries 38 = .ok (.getfield 41, 3) := by decide +kernel
theorem dX8_tries_41 : decode cX8_tries 41 = .ok (.iload_n 2, 1) := by decide +kernel
theorem dX8_tries_42 : decode cX8_tries 42 = .ok (.iload_n 1, 1) := by decide +kernel
theorem dX8_tries_43 : decode cX8_tries 43 = .ok (.iastore, 1) := by decide +kernel
theorem dX8_tries_44 : decode cX8_tries 44 = .ok (.iconst 1, 1) := by decide +kernel
theorem dX8_tries_45 : decode cX8_tries 45 = .ok (.ireturn, 1) := by decide +kernel
theorem dX8_tries_46 : decode cX8_tries 46 = .ok (.aload_n 0, 1) := by decide +kernel
theorem dX8_tries_47 : decode cX8_tries 47 = .ok (.dup, 1) := by decide +kernel
theorem dX8_tries_48 : decode cX8_tries 48 = .ok (.getfield 146, 3) := by decide +kernel
theorem dX8_tries_51 : decode cX8_tries 51 = .ok (.iconst 1, 1) := by decide +kernel
theorem dX8_tries_52 : decode cX8_tries 52 = .ok (.iadd, 1) := by decide +kernel
theorem dX8_tries_53 : decode cX8_tries 53 = .ok (.putfield 146, 3) := by decide +kernel
theorem dX8_tries_56 : decode cX8_tries 56 = .ok (.iconst 0, 1) := by decide +kernel
theorem dX8_tries_57 : decode cX8_tries 57 = .ok (.ireturn, 1) := by decide +kernel
theorem dX8_isEnded_0 : decode cX8_isEnded 0 = .ok (.aload_n 0, 1) := by decide +kernel
theorem dX8_isEnded_1 : decode cX8_isEnded 1 = .ok (.getfield 35, 3) := by decide +kernel
theorem dX8_isEnded_4 : decode cX8_isEnded 4 = .ok (.iload_n 1, 1) := by decide +kernel
theorem dX8_isEnded_5 : decode cX8_isEnded 5 = .ok (.iaload, 1) := by decide +kernel
theorem dX8_isEnded_6 : decode cX8_isEnded 6 = .ok (.iconst 3, 1) := by decide +kernel
theorem dX8_isEnded_7 : decode cX8_isEnded 7 = .ok (.if_icmp .eq 13, 3) := by decide +kernel
theorem dX8_isEnded_10 : decode cX8_isEnded 10 = .ok (.aload_n 0, 1) := by decide +kernel
theorem dX8_isEnded_11 : decode cX8_isEnded 11 = .ok (.getfield 35, 3) := by decide +kernel
theorem dX8_isEnded_14 : decode cX8_isEnded 14 = .ok (.iload_n 1, 1) := by decide +kernel
theorem dX8_isEnded_15 : decode cX8_isEnded 15 = .ok (.iaload, 1) := by decide +kernel
theorem dX8_isEnded_16 : decode cX8_isEnded 16 = .ok (.iconst 4, 1) := by decide +kernel
theorem dX8_isEnded_17 : decode cX8_isEnded 17 = .ok (.if_icmp .ne 7, 3) := by decide +kernel
theorem dX8_isEnded_20 : decode cX8_isEnded 20 = .ok (.iconst 1, 1) := by decide +kernel
theorem dX8_isEnded_21 : decode cX8_isEnded 21 = .ok (.goto 4, 3) := by decide +kernel
theorem dX8_isEnded_24 : decode cX8_isEnded 24 = .ok (.iconst 0, 1) := by decide +kernel
theorem dX8_isEnded_25 : decode cX8_isEnded 25 = .ok (.ireturn, 1) := by decide +kernel
theorem dX8_isBusy_0 : decode cX8_isBusy 0 = .ok (.aload_n 0, 1) := by decide +kernel
theorem dX8_isBusy_1 : decode cX8_isBusy 1 = .ok (.getfield 35, 3) := by decide +kernel
theorem dX8_isBusy_4 : decode cX8_isBusy 4 = .ok (.iload_n 2, 1) := by decide +kernel
theorem dX8_isBusy_5 : decode cX8_isBusy 5 = .ok (.iaload, 1) := by decide +kernel
theorem dX8_isBusy_6 : decode cX8_isBusy 6 = .ok (.iconst 2, 1) := by decide +kernel
theorem dX8_isBusy_7 : decode cX8_isBusy 7 = .ok (.if_icmp .ne 20, 3) := by decide +kernel
theorem dX8_isBusy_10 : decode cX8_isBusy 10 = .ok (.aload_n 0, 1) := by decide +kernel
theorem dX8_isBusy_11 : decode cX8_isBusy 11 = .ok (.getfield 38, 3) := by decide +kernel
theorem dX8_isBusy_14 : decode cX8_isBusy 14 = .ok (.iload_n 2, 1) := by decide +kernel
theorem dX8_isBusy_15 : decode cX8_isBusy 15 = .ok (.iaload, 1) := by decide +kernel
theorem dX8_isBusy_16 : decode cX8_isBusy 16 = .ok (.iload_n 3, 1) := by decide +kernel
theorem dX8_isBusy_17 : decode cX8_isBusy 17 = .ok (.if_icmp .ne 10, 3) := by decide +kernel
theorem dX8_isBusy_20 : decode cX8_isBusy 20 = .ok (.aload_n 0, 1) := by decide +kernel
theorem dX8_isBusy_21 : decode cX8_isBusy 21 = .ok (.getfield 50, 3) := by decide +kernel
theorem dX8_isBusy_24 : decode cX8_isBusy 24 = .ok (.iload_n 1, 1) := by decide +kernel
theorem dX8_isBusy_25 : decode cX8_isBusy 25 = .ok (.iconst 1, 1) := by decide +kernel
theorem dX8_isBusy_26 : decode cX8_isBusy 26 = .ok (.bastore, 1) := by decide +kernel
theorem dX8_isBusy_27 : decode cX8_isBusy 27 = .ok (.return_, 1) := by decide +kernel
theorem dX8_versionOf_0 : decode cX8_versionOf 0 = .ok (.iload_n 2, 1) := by decide +kernel
theorem dX8_versionOf_1 : decode cX8_versionOf 1 = .ok (.iload_n 1, 1) := by decide +kernel
theorem dX8_versionOf_2 : decode cX8_versionOf 2 = .ok (.if_icmp .ne 12, 3) := by decide +kernel
theorem dX8_versionOf_5 : decode cX8_versionOf 5 = .ok (.aload_n 0, 1) := by decide +kernel
theorem dX8_versionOf_6 : decode cX8_versionOf 6 = .ok (.getfield 38, 3) := by decide +kernel
theorem dX8_versionOf_9 : decode cX8_versionOf 9 = .ok (.iload_n 1, 1) := by decide +kernel
theorem dX8_versionOf_10 : decode cX8_versionOf 10 = .ok (.iaload, 1) := by decide +kernel
theorem dX8_versionOf_11 : decode cX8_versionOf 11 = .ok (.goto 9, 3) := by decide +kernel
theorem dX8_versionOf_14 : decode cX8_versionOf 14 = .ok (.aload_n 0, 1) := by decide +kernel
theorem dX8_versionOf_15 : decode cX8_versionOf 15 = .ok (.getfield 56, 3) := by decide +kernel
theorem dX8_versionOf_18 : decode cX8_versionOf 18 = .ok (.iload_n 1, 1) := by decide +kernel
theorem dX8_versionOf_19 : decode cX8_versionOf 19 = .ok (.iaload, 1) := by decide +kernel
theorem dX8_versionOf_20 : decode cX8_versionOf 20 = .ok (.ireturn, 1) := by decide +kernel
theorem dX8_looks_0 : decode cX8_looks 0 = .ok (.aload_n 0, 1) := by decide +kernel
theorem dX8_looks_1 : decode cX8_looks 1 = .ok (.getfield 19, 3) := by decide +kernel
theorem dX8_looks_4 : decode cX8_looks 4 = .ok (.bipush 8, 2) := by decide +kernel
theorem dX8_looks_6 : decode cX8_looks 6 = .ok (.iload_n 1, 1) := by decide +kernel
theorem dX8_looks_7 : decode cX8_looks 7 = .ok (.imul, 1) := by decide +kernel
theorem dX8_looks_8 : decode cX8_looks 8 = .ok (.aload_n 0, 1) := by decide +kernel
theorem dX8_looks_9 : decode cX8_looks 9 = .ok (.getfield 44, 3) := by decide +kernel
theorem dX8_looks_12 : decode cX8_looks 12 = .ok (.iload_n 1, 1) := by decide +kernel
theorem dX8_looks_13 : decode cX8_looks 13 = .ok (.iaload, 1) := by decide +kernel
theorem dX8_looks_14 : decode cX8_looks 14 = .ok (.iadd, 1) := by decide +kernel
theorem dX8_looks_15 : decode cX8_looks 15 = .ok (.iaload, 1) := by decide +kernel
theorem dX8_looks_16 : decode cX8_looks 16 = .ok (.istore_n 2, 1) := by decide +kernel
theorem dX8_looks_17 : decode cX8_looks 17 = .ok (.iconst 0, 1) := by decide +kernel
theorem dX8_looks_18 : decode cX8_looks 18 = .ok (.istore_n 3, 1) := by decide +kernel
theorem dX8_looks_19 : decode cX8_looks 19 = .ok (.iload_n 3, 1) := by decide +kernel
theorem dX8_looks_20 : decode cX8_looks 20 = .ok (.aload_n 0, 1) := by decide +kernel
theorem dX8_looks_21 : decode cX8_looks 21 = .ok (.getfield 136, 3) := by decide +kernel
theorem dX8_looks_24 : decode cX8_looks 24 = .ok (.if_icmp .ge 34, 3) := by decide +kernel
theorem dX8_looks_27 : decode cX8_looks 27 = .ok (.aload_n 0, 1) := by decide +kernel
theorem dX8_looks_28 : decode cX8_looks 28 = .ok (.getfield 98, 3) := by decide +kernel
theorem dX8_looks_31 : decode cX8_looks 31 = .ok (.iload_n 3, 1) := by decide +kernel
theorem dX8_looks_32 : decode cX8_looks 32 = .ok (.iaload, 1) := by decide +kernel
theorem dX8_looks_33 : decode cX8_looks 33 = .ok (.iload_n 2, 1) := by decide +kernel
theorem dX8_looks_34 : decode cX8_looks 34 = .ok (.if_icmp .ne 18, 3) := by decide +kernel
theorem dX8_looks_37 : decode cX8_looks 37 = .ok (.aload_n 0, 1) := by decide +kernel
theorem dX8_looks_38 : decode cX8_looks 38 = .ok (.getfield 95, 3) := by decide +kernel
theorem dX8_looks_41 : decode cX8_looks 41 = .ok (.iload_n 3, 1) := by decide +kernel
theorem dX8_looks_42 : decode cX8_looks 42 = .ok (.iaload, 1) := by decide +kernel
theorem dX8_looks_43 : decode cX8_looks 43 = .ok (.aload_n 0, 1) := by decide +kernel
theorem dX8_looks_44 : decode cX8_looks 44 = .ok (.getfield 47, 3) := by decide +kernel
theorem dX8_looks_47 : decode cX8_looks 47 = .ok (.iload_n 1, 1) := by decide +kernel
theorem dX8_looks_48 : decode cX8_looks 48 = .ok (.iaload, 1) := by decide +kernel
theorem dX8_looks_49 : decode cX8_looks 49 = .ok (.if_icmp .gt 9, 3) := by decide +kernel
theorem dX8_looks_52 : decode cX8_looks 52 = .ok (.iinc 3 1, 3) := by decide +kernel
theorem dX8_looks_55 : decode cX8_looks 55 = .ok (.goto (-36), 3) := by decide +kernel
theorem dX8_looks_58 : decode cX8_looks 58 = .ok (.iload_n 3, 1) := by decide +kernel
theorem dX8_looks_59 : decode cX8_looks 59 = .ok (.aload_n 0, 1) := by decide +kernel
theorem dX8_looks_60 : decode cX8_looks 60 = .ok (.getfield 136, 3) := by decide +kernel
theorem dX8_looks_63 : decode cX8_looks 63 = .ok (.if_icmp .ne 20, 3) := by decide +kernel
theorem dX8_looks_66 : decode cX8_looks 66 = .ok (.aload_n 0, 1) := by decide +kernel
theorem dX8_looks_67 : decode cX8_looks 67 = .ok (.iload_n 1, 1) := by decide +kernel
theorem dX8_looks_68 : decode cX8_looks 68 = .ok (.aload_n 0, 1) := by decide +kernel
theorem dX8_looks_69 : decode cX8_looks 69 = .ok (.iload_n 1, 1) := by decide +kernel
theorem dX8_looks_70 : decode cX8_looks 70 = .ok (.aload_n 0, 1) := by decide +kernel
theorem dX8_looks_71 : decode cX8_looks 71 = .ok (.getfield 44, 3) := by decide +kernel
theorem dX8_looks_74 : decode cX8_looks 74 = .ok (.iload_n 1, 1) := by decide +kernel
theorem dX8_looks_75 : decode cX8_looks 75 = .ok (.iaload, 1) := by decide +kernel
theorem dX8_looks_76 : decode cX8_looks 76 = .ok (.invokevirtual 126, 3) := by decide +kernel
theorem dX8_looks_79 : decode cX8_looks 79 = .ok (.invokevirtual 149, 3) := by decide +kernel
theorem dX8_looks_82 : decode cX8_looks 82 = .ok (.return_, 1) := by decide +kernel
theorem dX8_looks_83 : decode cX8_looks 83 = .ok (.aload_n 0, 1) := by decide +kernel
theorem dX8_looks_84 : decode cX8_looks 84 = .ok (.getfield 47, 3) := by decide +kernel
theorem dX8_looks_87 : decode cX8_looks 87 = .ok (.iload_n 1, 1) := by decide +kernel
theorem dX8_looks_88 : decode cX8_looks 88 = .ok (.aload_n 0, 1) := by decide +kernel
theorem dX8_looks_89 : decode cX8_looks 89 = .ok (.getfield 95, 3) := by decide +kernel
theorem dX8_looks_92 : decode cX8_looks 92 = .ok (.iload_n 3, 1) := by decide +kernel
theorem dX8_looks_93 : decode cX8_looks 93 = .ok (.iaload, 1) := by decide +kernel
theorem dX8_looks_94 : decode cX8_looks 94 = .ok (.iastore, 1) := by decide +kernel
theorem dX8_looks_95 : decode cX8_looks 95 = .ok (.aload_n 0, 1) := by decide +kernel
theorem dX8_looks_96 : decode cX8_looks 96 = .ok (.getfield 83, 3) := by decide +kernel
theorem dX8_looks_99 : decode cX8_looks 99 = .ok (.iload_n 3, 1) := by decide +kernel
theorem dX8_looks_100 : decode cX8_looks 100 = .ok (.iaload, 1) := by decide +kernel
theorem dX8_looks_101 : decode cX8_looks 101 = .ok (.iload_n 1, 1) := by decide +kernel
theorem dX8_looks_102 : decode cX8_looks 102 = .ok (.if_icmp .eq 28, 3) := by decide +kernel
theorem dX8_looks_105 : decode cX8_looks 105 = .ok (.aload_n 0, 1) := by decide +kernel
theorem dX8_looks_106 : decode cX8_looks 106 = .ok (.getfield 89, 3) := by decide +kernel
theorem dX8_looks_109 : decode cX8_looks 109 = .ok (.iload_n 3, 1) := by decide +kernel
theorem dX8_looks_110 : decode cX8_looks 110 = .ok (.iaload, 1) := by decide +kernel
theorem dX8_looks_111 : decode cX8_looks 111 = .ok (.aload_n 0, 1) := by decide +kernel
theorem dX8_looks_112 : decode cX8_looks 112 = .ok (.getfield 16, 3) := by decide +kernel
theorem dX8_looks_115 : decode cX8_looks 115 = .ok (.bipush 8, 2) := by decide +kernel
theorem dX8_looks_117 : decode cX8_looks 117 = .ok (.iload_n 1, 1) := by decide +kernel
theorem dX8_looks_118 : decode cX8_looks 118 = .ok (.imul, 1) := by decide +kernel
theorem dX8_looks_119 : decode cX8_looks 119 = .ok (.aload_n 0, 1) := by decide +kernel
theorem dX8_looks_120 : decode cX8_looks 120 = .ok (.getfield 44, 3) := by decide +kernel
theorem dX8_looks_123 : decode cX8_looks 123 = .ok (.iload_n 1, 1) := by decide +kernel
theorem dX8_looks_124 : decode cX8_looks 124 = .ok (.iaload, 1) := by decide +kernel
theorem dX8_looks_125 : decode cX8_looks 125 = .ok (.iadd, 1) := by decide +kernel
theorem dX8_looks_126 : decode cX8_looks 126 = .ok (.iaload, 1) := by decide +kernel
theorem dX8_looks_127 : decode cX8_looks 127 = .ok (.if_icmp .ne 4, 3) := by decide +kernel
theorem dX8_looks_130 : decode cX8_looks 130 = .ok (.return_, 1) := by decide +kernel
theorem dX8_looks_131 : decode cX8_looks 131 = .ok (.aload_n 0, 1) := by decide +kernel
theorem dX8_looks_132 : decode cX8_looks 132 = .ok (.getfield 53, 3) := by decide +kernel
theorem dX8_looks_135 : decode cX8_looks 135 = .ok (.iload_n 1, 1) := by decide +kernel
theorem dX8_looks_136 : decode cX8_looks 136 = .ok (.aload_n 0, 1) := by decide +kernel
theorem dX8_looks_137 : decode cX8_looks 137 = .ok (.getfield 83, 3) := by decide +kernel
theorem dX8_looks_140 : decode cX8_looks 140 = .ok (.iload_n 3, 1) := by decide +kernel
theorem dX8_looks_141 : decode cX8_looks 141 = .ok (.iaload, 1) := by decide +kernel
theorem dX8_looks_142 : decode cX8_looks 142 = .ok (.iastore, 1) := by decide +kernel
theorem dX8_looks_143 : decode cX8_looks 143 = .ok (.aload_n 0, 1) := by decide +kernel
theorem dX8_looks_144 : decode cX8_looks 144 = .ok (.getfield 56, 3) := by decide +kernel
theorem dX8_looks_147 : decode cX8_looks 147 = .ok (.iload_n 1, 1) := by decide +kernel
theorem dX8_looks_148 : decode cX8_looks 148 = .ok (.aload_n 0, 1) := by decide +kernel
theorem dX8_looks_149 : decode cX8_looks 149 = .ok (.getfield 86, 3) := by decide +kernel
theorem dX8_looks_152 : decode cX8_looks 152 = .ok (.iload_n 3, 1) := by decide +kernel
theorem dX8_looks_153 : decode cX8_looks 153 = .ok (.iaload, 1) := by decide +kernel
theorem dX8_looks_154 : decode cX8_looks 154 = .ok (.iastore, 1) := by decide +kernel
theorem dX8_looks_155 : decode cX8_looks 155 = .ok (.aload_n 0, 1) := by decide +kernel
theorem dX8_looks_156 : decode cX8_looks 156 = .ok (.getfield 59, 3) := by decide +kernel
theorem dX8_looks_159 : decode cX8_looks 159 = .ok (.iload_n 1, 1) := by decide +kernel
theorem dX8_looks_160 : decode cX8_looks 160 = .ok (.aload_n 0, 1) := by decide +kernel
theorem dX8_looks_161 : decode cX8_looks 161 = .ok (.getfield 92, 3) := by decide +kernel
theorem dX8_looks_164 : decode cX8_looks 164 = .ok (.iload_n 3, 1) := by decide +kernel
theorem dX8_looks_165 : decode cX8_looks 165 = .ok (.iaload, 1) := by decide +kernel
theorem dX8_looks_166 : decode cX8_looks 166 = .ok (.iastore, 1) := by decide +kernel
theorem dX8_looks_167 : decode cX8_looks 167 = .ok (.aload_n 0, 1) := by decide +kernel
theorem dX8_looks_168 : decode cX8_looks 168 = .ok (.getfield 9, 3) := by decide +kernel
theorem dX8_looks_171 : decode cX8_looks 171 = .ok (.iload_n 1, 1) := by decide +kernel
theorem dX8_looks_172 : decode cX8_looks 172 = .ok (.iconst 4, 1) := by decide +kernel
theorem dX8_looks_173 : decode cX8_looks 173 = .ok (.iastore, 1) := by decide +kernel
theorem dX8_looks_174 : decode cX8_looks 174 = .ok (.return_, 1) := by decide +kernel
theorem dX8_claims_0 : decode cX8_claims 0 = .ok (.iload_n 1, 1) := by decide +kernel
theorem dX8_claims_1 : decode cX8_claims 1 = .ok (.aload_n 0, 1) := by decide +kernel
theorem dX8_claims_2 : decode cX8_claims 2 = .ok (.getfield 53, 3) := by decide +kernel
theorem dX8_claims_5 : decode cX8_claims 5 = .ok (.iload_n 1, 1) := by decide +kernel
theorem dX8_claims_6 : decode cX8_claims 6 = .ok (.iaload, 1) := by decide +kernel
theorem dX8_claims_7 : decode cX8_claims 7 = .ok (.if_icmp .ge 7, 3) := by decide +kernel
theorem dX8_claims_10 : decode cX8_claims 10 = .ok (.iload_n 1, 1) := by decide +kernel
theorem dX8_claims_11 : decode cX8_claims 11 = .ok (.goto 9, 3) := by decide +kernel
theorem dX8_claims_14 : decode cX8_claims 14 = .ok (.aload_n 0, 1) := by decide +kernel
theorem dX8_claims_15 : decode cX8_claims 15 = .ok (.getfield 53, 3) := by decide +kernel
theorem dX8_claims_18 : decode cX8_claims 18 = .ok (.iload_n 1, 1) := by decide +kernel
theorem dX8_claims_19 : decode cX8_claims 19 = .ok (.iaload, 1) := by decide +kernel
theorem dX8_claims_20 : decode cX8_claims 20 = .ok (.istore_n 2, 1) := by decide +kernel
theorem dX8_claims_21 : decode cX8_claims 21 = .ok (.aload_n 0, 1) := by decide +kernel
theorem dX8_claims_22 : decode cX8_claims 22 = .ok (.iload_n 1, 1) := by decide +kernel
theorem dX8_claims_23 : decode cX8_claims 23 = .ok (.iload_n 2, 1) := by decide +kernel
theorem dX8_claims_24 : decode cX8_claims 24 = .ok (.invokevirtual 153, 3) := by decide +kernel
theorem dX8_claims_27 : decode cX8_claims 27 = .ok (.istore_n 3, 1) := by decide +kernel
theorem dX8_claims_28 : decode cX8_claims 28 = .ok (.aload_n 0, 1) := by decide +kernel
theorem dX8_claims_29 : decode cX8_claims 29 = .ok (.iload_n 1, 1) := by decide +kernel
theorem dX8_claims_30 : decode cX8_claims 30 = .ok (.iload_n 2, 1) := by decide +kernel
theorem dX8_claims_31 : decode cX8_claims 31 = .ok (.iload_n 3, 1) := by decide +kernel
theorem dX8_claims_32 : decode cX8_claims 32 = .ok (.invokevirtual 156, 3) := by decide +kernel
theorem dX8_claims_35 : decode cX8_claims 35 = .ok (.ifCond .eq 13, 3) := by decide +kernel
theorem dX8_claims_38 : decode cX8_claims 38 = .ok (.aload_n 0, 1) := by decide +kernel
theorem dX8_claims_39 : decode cX8_claims 39 = .ok (.getfield 9, 3) := by decide +kernel
theorem dX8_claims_42 : decode cX8_claims 42 = .ok (.iload_n 1, 1) := by decide +kernel
theorem dX8_claims_43 : decode cX8_claims 43 = .ok (.iconst 5, 1) := by decide +kernel
theorem dX8_claims_44 : decode cX8_claims 44 = .ok (.iastore, 1) := by decide +kernel
theorem dX8_claims_45 : decode cX8_claims 45 = .ok (.goto 38, 3) := by decide +kernel
theorem dX8_claims_48 : decode cX8_claims 48 = .ok (.iload_n 2, 1) := by decide +kernel
theorem dX8_claims_49 : decode cX8_claims 49 = .ok (.iload_n 1, 1) := by decide +kernel
theorem dX8_claims_50 : decode cX8_claims 50 = .ok (.if_icmp .ne 19, 3) := by decide +kernel
theorem dX8_claims_53 : decode cX8_claims 53 = .ok (.aload_n 0, 1) := by decide +kernel
theorem dX8_claims_54 : decode cX8_claims 54 = .ok (.iload_n 1, 1) := by decide +kernel
theorem dX8_claims_55 : decode cX8_claims 55 = .ok (.invokevirtual 160, 3) := by decide +kernel
theorem dX8_claims_58 : decode cX8_claims 58 = .ok (.ifCond .eq 11, 3) := by decide +kernel
theorem dX8_claims_61 : decode cX8_claims 61 = .ok (.aload_n 0, 1) := by decide +kernel
theorem dX8_claims_62 : decode cX8_claims 62 = .ok (.iload_n 1, 1) := by decide +kernel
theorem dX8_claims_63 : decode cX8_claims 63 = .ok (.invokevirtual 163, 3) := by decide +kernel
theorem dX8_claims_66 : decode cX8_claims 66 = .ok (.goto 17, 3) := by decide +kernel
theorem dX8_claims_69 : decode cX8_claims 69 = .ok (.aload_n 0, 1) := by decide +kernel
theorem dX8_claims_70 : decode cX8_claims 70 = .ok (.iload_n 1, 1) := by decide +kernel
theorem dX8_claims_71 : decode cX8_claims 71 = .ok (.iload_n 2, 1) := by decide +kernel
theorem dX8_claims_72 : decode cX8_claims 72 = .ok (.iload_n 3, 1) := by decide +kernel
theorem dX8_claims_73 : decode cX8_claims 73 = .ok (.invokevirtual 166, 3) := by decide +kernel
theorem dX8_claims_76 : decode cX8_claims 76 = .ok (.aload_n 0, 1) := by decide +kernel
theorem dX8_claims_77 : decode cX8_claims 77 = .ok (.getfield 9, 3) := by decide +kernel
theorem dX8_claims_80 : decode cX8_claims 80 = .ok (.iload_n 1, 1) := by decide +kernel
theorem dX8_claims_81 : decode cX8_claims 81 = .ok (.iconst 3, 1) := by decide +kernel
theorem dX8_claims_82 : decode cX8_claims 82 = .ok (.iastore, 1) := by decide +kernel
theorem dX8_claims_83 : decode cX8_claims 83 = .ok (.return_, 1) := by decide +kernel
theorem dX8_seconds_0 : decode cX8_seconds 0 = .ok (.iload_n 1, 1) := by decide +kernel
theorem dX8_seconds_1 : decode cX8_seconds 1 = .ok (.aload_n 0, 1) := by decide +kernel
theorem dX8_seconds_2 : decode cX8_seconds 2 = .ok (.getfield 53, 3) := by decide +kernel
theorem dX8_seconds_5 : decode cX8_seconds 5 = .ok (.iload_n 1, 1) := by decide +kernel
theorem dX8_seconds_6 : decode cX8_seconds 6 = .ok (.iaload, 1) := by decide +kernel
theorem dX8_seconds_7 : decode cX8_seconds 7 = .ok (.if_icmp .le 7, 3) := by decide +kernel
theorem dX8_seconds_10 : decode cX8_seconds 10 = .ok (.iload_n 1, 1) := by decide +kernel
theorem dX8_seconds_11 : decode cX8_seconds 11 = .ok (.goto 9, 3) := by decide +kernel
theorem dX8_seconds_14 : decode cX8_seconds 14 = .ok (.aload_n 0, 1) := by decide +kernel
theorem dX8_seconds_15 : decode cX8_seconds 15 = .ok (.getfield 53, 3) := by decide +kernel
theorem dX8_seconds_18 : decode cX8_seconds 18 = .ok (.iload_n 1, 1) := by decide +kernel
theorem dX8_seconds_19 : decode cX8_seconds 19 = .ok (.iaload, 1) := by decide +kernel
theorem dX8_seconds_20 : decode cX8_seconds 20 = .ok (.istore_n 2, 1) := by decide +kernel
theorem dX8_seconds_21 : decode cX8_seconds 21 = .ok (.aload_n 0, 1) := by decide +kernel
theorem dX8_seconds_22 : decode cX8_seconds 22 = .ok (.iload_n 1, 1) := by decide +kernel
theorem dX8_seconds_23 : decode cX8_seconds 23 = .ok (.iload_n 2, 1) := by decide +kernel
theorem dX8_seconds_24 : decode cX8_seconds 24 = .ok (.invokevirtual 153, 3) := by decide +kernel
theorem dX8_seconds_27 : decode cX8_seconds 27 = .ok (.istore_n 3, 1) := by decide +kernel
theorem dX8_seconds_28 : decode cX8_seconds 28 = .ok (.aload_n 0, 1) := by decide +kernel
theorem dX8_seconds_29 : decode cX8_seconds 29 = .ok (.getfield 62, 3) := by decide +kernel
theorem dX8_seconds_32 : decode cX8_seconds 32 = .ok (.iload_n 1, 1) := by decide +kernel
theorem dX8_seconds_33 : decode cX8_seconds 33 = .ok (.iconst 0, 1) := by decide +kernel
theorem dX8_seconds_34 : decode cX8_seconds 34 = .ok (.bastore, 1) := by decide +kernel
theorem dX8_seconds_35 : decode cX8_seconds 35 = .ok (.aload_n 0, 1) := by decide +kernel
theorem dX8_seconds_36 : decode cX8_seconds 36 = .ok (.iload_n 1, 1) := by decide +kernel
theorem dX8_seconds_37 : decode cX8_seconds 37 = .ok (.iload_n 2, 1) := by decide +kernel
theorem dX8_seconds_38 : decode cX8_seconds 38 = .ok (.iload_n 3, 1) := by decide +kernel
theorem dX8_seconds_39 : decode cX8_seconds 39 = .ok (.invokevirtual 156, 3) := by decide +kernel
theorem dX8_seconds_42 : decode cX8_seconds 42 = .ok (.ifCond .eq 17, 3) := by decide +kernel
theorem dX8_seconds_45 : decode cX8_seconds 45 = .ok (.aload_n 0, 1) := by decide +kernel
theorem dX8_seconds_46 : decode cX8_seconds 46 = .ok (.iload_n 1, 1) := by decide +kernel
theorem dX8_seconds_47 : decode cX8_seconds 47 = .ok (.invokevirtual 170, 3) := by decide +kernel
theorem dX8_seconds_50 : decode cX8_seconds 50 = .ok (.aload_n 0, 1) := by decide +kernel
theorem dX8_seconds_51 : decode cX8_seconds 51 = .ok (.getfield 9, 3) := by decide +kernel
theorem dX8_seconds_54 : decode cX8_seconds 54 = .ok (.iload_n 1, 1) := by decide +kernel
theorem dX8_seconds_55 : decode cX8_seconds 55 = .ok (.bipush 7, 2) := by decide +kernel
theorem dX8_seconds_57 : decode cX8_seconds 57 = .ok (.iastore, 1) := by decide +kernel
theorem dX8_seconds_58 : decode cX8_seconds 58 = .ok (.return_, 1) := by decide +kernel
theorem dX8_seconds_59 : decode cX8_seconds 59 = .ok (.aload_n 0, 1) := by decide +kernel
theorem dX8_seconds_60 : decode cX8_seconds 60 = .ok (.getfield 62, 3) := by decide +kernel
theorem dX8_seconds_63 : decode cX8_seconds 63 = .ok (.iload_n 1, 1) := by decide +kernel
theorem dX8_seconds_64 : decode cX8_seconds 64 = .ok (.iload_n 2, 1) := by decide +kernel
theorem dX8_seconds_65 : decode cX8_seconds 65 = .ok (.iload_n 1, 1) := by decide +kernel
theorem dX8_seconds_66 : decode cX8_seconds 66 = .ok (.if_icmp .ne 15, 3) := by decide +kernel
theorem dX8_seconds_69 : decode cX8_seconds 69 = .ok (.aload_n 0, 1) := by decide +kernel
theorem dX8_seconds_70 : decode cX8_seconds 70 = .ok (.iload_n 1, 1) := by decide +kernel
theorem dX8_seconds_71 : decode cX8_seconds 71 = .ok (.invokevirtual 160, 3) := by decide +kernel
theorem dX8_seconds_74 : decode cX8_seconds 74 = .ok (.ifCond .eq 7, 3) := by decide +kernel
theorem dX8_seconds_77 : decode cX8_seconds 77 = .ok (.iconst 1, 1) := by decide +kernel
theorem dX8_seconds_78 : decode cX8_seconds 78 = .ok (.goto 4, 3) := by decide +kernel
theorem dX8_seconds_81 : decode cX8_seconds 81 = .ok (.iconst 0, 1) := by decide +kernel
theorem dX8_seconds_82 : decode cX8_seconds 82 = .ok (.bastore, 1) := by decide +kernel
theorem dX8_seconds_83 : decode cX8_seconds 83 = .ok (.aload_n 0, 1) := by decide +kernel
theorem dX8_seconds_84 : decode cX8_seconds 84 = .ok (.iload_n 1, 1) := by decide +kernel
theorem dX8_seconds_85 : decode cX8_seconds 85 = .ok (.iload_n 2, 1) := by decide +kernel
theorem dX8_seconds_86 : decode cX8_seconds 86 = .ok (.iload_n 3, 1) := by decide +kernel
theorem dX8_seconds_87 : decode cX8_seconds 87 = .ok (.invokevirtual 166, 3) := by decide +kernel
theorem dX8_seconds_90 : decode cX8_seconds 90 = .ok (.aload_n 0, 1) := by decide +kernel
theorem dX8_seconds_91 : decode cX8_seconds 91 = .ok (.getfield 9, 3) := by decide +kernel
theorem dX8_seconds_94 : decode cX8_seconds 94 = .ok (.iload_n 1, 1) := by decide +kernel
theorem dX8_seconds_95 : decode cX8_seconds 95 = .ok (.bipush 6, 2) := by decide +kernel
theorem dX8_seconds_97 : decode cX8_seconds 97 = .ok (.iastore, 1) := by decide +kernel
theorem dX8_seconds_98 : decode cX8_seconds 98 = .ok (.return_, 1) := by decide +kernel
theorem dX8_meets_0 : decode cX8_meets 0 = .ok (.aload_n 0, 1) := by decide +kernel
theorem dX8_meets_1 : decode cX8_meets 1 = .ok (.getfield 53, 3) := by decide +kernel
theorem dX8_meets_4 : decode cX8_meets 4 = .ok (.iload_n 1, 1) := by decide +kernel
theorem dX8_meets_5 : decode cX8_meets 5 = .ok (.iaload, 1) := by decide +kernel
theorem dX8_meets_6 : decode cX8_meets 6 = .ok (.istore_n 2, 1) := by decide +kernel
theorem dX8_meets_7 : decode cX8_meets 7 = .ok (.bipush 8, 2) := by decide +kernel
theorem dX8_meets_9 : decode cX8_meets 9 = .ok (.iload_n 1, 1) := by decide +kernel
theorem dX8_meets_10 : decode cX8_meets 10 = .ok (.imul, 1) := by decide +kernel
theorem dX8_meets_11 : decode cX8_meets 11 = .ok (.aload_n 0, 1) := by decide +kernel
theorem dX8_meets_12 : decode cX8_meets 12 = .ok (.getfield 44, 3) := by decide +kernel
theorem dX8_meets_15 : decode cX8_meets 15 = .ok (.iload_n 1, 1) := by decide +kernel
theorem dX8_meets_16 : decode cX8_meets 16 = .ok (.iaload, 1) := by decide +kernel
theorem dX8_meets_17 : decode cX8_meets 17 = .ok (.iadd, 1) := by decide +kernel
theorem dX8_meets_18 : decode cX8_meets 18 = .ok (.istore_n 3, 1) := by decide +kernel
theorem dX8_meets_19 : decode cX8_meets 19 = .ok (.aload_n 0, 1) := by decide +kernel
theorem dX8_meets_20 : decode cX8_meets 20 = .ok (.getfield 104, 3) := by decide +kernel
theorem dX8_meets_23 : decode cX8_meets 23 = .ok (.sipush 1001, 3) := by decide +kernel
theorem dX8_meets_26 : decode cX8_meets 26 = .ok (.iload_n 1, 1) := by decide +kernel
theorem dX8_meets_27 : decode cX8_meets 27 = .ok (.imul, 1) := by decide +kernel
theorem dX8_meets_28 : decode cX8_meets 28 = .ok (.aload_n 0, 1) := by decide +kernel
theorem dX8_meets_29 : decode cX8_meets 29 = .ok (.getfield 38, 3) := by decide +kernel
theorem dX8_meets_32 : decode cX8_meets 32 = .ok (.iload_n 1, 1) := by decide +kernel
theorem dX8_meets_33 : decode cX8_meets 33 = .ok (.iaload, 1) := by decide +kernel
theorem dX8_meets_34 : decode cX8_meets 34 = .ok (.iadd, 1) := by decide +kernel
theorem dX8_meets_35 : decode cX8_meets 35 = .ok (.dup2, 1) := by decide +kernel
theorem dX8_meets_36 : decode cX8_meets 36 = .ok (.iaload, 1) := by decide +kernel
theorem dX8_meets_37 : decode cX8_meets 37 = .ok (.iconst 1, 1) := by decide +kernel
theorem dX8_meets_38 : decode cX8_meets 38 = .ok (.iadd, 1) := by decide +kernel
theorem dX8_meets_39 : decode cX8_meets 39 = .ok (.iastore, 1) := by decide +kernel
theorem dX8_meets_40 : decode cX8_meets 40 = .ok (.aload_n 0, 1) := by decide +kernel
theorem dX8_meets_41 : decode cX8_meets 41 = .ok (.getfield 104, 3) := by decide +kernel
theorem dX8_meets_44 : decode cX8_meets 44 = .ok (.sipush 1001, 3) := by decide +kernel
theorem dX8_meets_47 : decode cX8_meets 47 = .ok (.iload_n 2, 1) := by decide +kernel
theorem dX8_meets_48 : decode cX8_meets 48 = .ok (.imul, 1) := by decide +kernel
theorem dX8_meets_49 : decode cX8_meets 49 = .ok (.aload_n 0, 1) := by decide +kernel
theorem dX8_meets_50 : decode cX8_meets 50 = .ok (.getfield 56, 3) := by decide +kernel
theorem dX8_meets_53 : decode cX8_meets 53 = .ok (.iload_n 1, 1) := by decide +kernel
theorem dX8_meets_54 : decode cX8_meets 54 = .ok (.iaload, 1) := by decide +kernel
theorem dX8_meets_55 : decode cX8_meets 55 = .ok (.iadd, 1) := by decide +kernel
theorem dX8_meets_56 : decode cX8_meets 56 = .ok (.dup2, 1) := by decide +kernel
theorem dX8_meets_57 : decode cX8_meets 57 = .ok (.iaload, 1) := by decide +kernel
theorem dX8_meets_58 : decode cX8_meets 58 = .ok (.iconst 1, 1) := by decide +kernel
theorem dX8_meets_59 : decode cX8_meets 59 = .ok (.iadd, 1) := by decide +kernel
theorem dX8_meets_60 : decode cX8_meets 60 = .ok (.iastore, 1) := by decide +kernel
theorem dX8_meets_61 : decode cX8_meets 61 = .ok (.aload_n 0, 1) := by decide +kernel
theorem dX8_meets_62 : decode cX8_meets 62 = .ok (.getfield 173, 3) := by decide +kernel
theorem dX8_meets_65 : decode cX8_meets 65 = .ok (.sipush 200, 3) := by decide +kernel
theorem dX8_meets_68 : decode cX8_meets 68 = .ok (.if_icmp .ge 146, 3) := by decide +kernel
theorem dX8_meets_71 : decode cX8_meets 71 = .ok (.bipush 8, 2) := by decide +kernel
theorem dX8_meets_73 : decode cX8_meets 73 = .ok (.aload_n 0, 1) := by decide +kernel
theorem dX8_meets_74 : decode cX8_meets 74 = .ok (.getfield 173, 3) := by decide +kernel
theorem dX8_meets_77 : decode cX8_meets 77 = .ok (.imul, 1) := by decide +kernel
theorem dX8_meets_78 : decode cX8_meets 78 = .ok (.istore 4, 2) := by decide +kernel
theorem dX8_meets_80 : decode cX8_meets 80 = .ok (.aload_n 0, 1) := by decide +kernel
theorem dX8_meets_81 : decode cX8_meets 81 = .ok (.getfield 101, 3) := by decide +kernel
theorem dX8_meets_84 : decode cX8_meets 84 = .ok (.iload 4, 2) := by decide +kernel
theorem dX8_meets_86 : decode cX8_meets 86 = .ok (.iload_n 1, 1) := by decide +kernel
theorem dX8_meets_87 : decode cX8_meets 87 = .ok (.iastore, 1) := by decide +kernel
theorem dX8_meets_88 : decode cX8_meets 88 = .ok (.aload_n 0, 1) := by decide +kernel
theorem dX8_meets_89 : decode cX8_meets 89 = .ok (.getfield 101, 3) := by decide +kernel
theorem dX8_meets_92 : decode cX8_meets 92 = .ok (.iload 4, 2) := by decide +kernel
theorem dX8_meets_94 : decode cX8_meets 94 = .ok (.iconst 1, 1) := by decide +kernel
theorem dX8_meets_95 : decode cX8_meets 95 = .ok (.iadd, 1) := by decide +kernel
theorem dX8_meets_96 : decode cX8_meets 96 = .ok (.iload_n 2, 1) := by decide +kernel
theorem dX8_meets_97 : decode cX8_meets 97 = .ok (.iastore, 1) := by decide +kernel
theorem dX8_meets_98 : decode cX8_meets 98 = .ok (.aload_n 0, 1) := by decide +kernel
theorem dX8_meets_99 : decode cX8_meets 99 = .ok (.getfield 101, 3) := by decide +kernel
theorem dX8_meets_102 : decode cX8_meets 102 = .ok (.iload 4, 2) := by decide +kernel
theorem dX8_meets_104 : decode cX8_meets 104 = .ok (.iconst 2, 1) := by decide +kernel
theorem dX8_meets_105 : decode cX8_meets 105 = .ok (.iadd, 1) := by decide +kernel
theorem dX8_meets_106 : decode cX8_meets 106 = .ok (.aload_n 0, 1) := by decide +kernel
theorem dX8_meets_107 : decode cX8_meets 107 = .ok (.getfield 19, 3) := by decide +kernel
theorem dX8_meets_110 : decode cX8_meets 110 = .ok (.iload_n 3, 1) := by decide +kernel
theorem dX8_meets_111 : decode cX8_meets 111 = .ok (.iaload, 1) := by decide +kernel
theorem dX8_meets_112 : decode cX8_meets 112 = .ok (.iastore, 1) := by decide +kernel
theorem dX8_meets_113 : decode cX8_meets 113 = .ok (.aload_n 0, 1) := by decide +kernel
theorem dX8_meets_114 : decode cX8_meets 114 = .ok (.getfield 101, 3) := by decide +kernel
theorem dX8_meets_117 : decode cX8_meets 117 = .ok (.iload 4, 2) := by decide +kernel
theorem dX8_meets_119 : decode cX8_meets 119 = .ok (.iconst 3, 1) := by decide +kernel
theorem dX8_meets_120 : decode cX8_meets 120 = .ok (.iadd, 1) := by decide +kernel
theorem dX8_meets_121 : decode cX8_meets 121 = .ok (.aload_n 0, 1) := by decide +kernel
theorem dX8_meets_122 : decode cX8_meets 122 = .ok (.getfield 16, 3) := by decide +kernel
theorem dX8_meets_125 : decode cX8_meets 125 = .ok (.iload_n 3, 1) := by decide +kernel
theorem dX8_meets_126 : decode cX8_meets 126 = .ok (.iaload, 1) := by decide +kernel
theorem dX8_meets_127 : decode cX8_meets 127 = .ok (.ifCond .ne 12, 3) := by decide +kernel
theorem dX8_meets_130 : decode cX8_meets 130 = .ok (.aload_n 0, 1) := by decide +kernel
theorem dX8_meets_131 : decode cX8_meets 131 = .ok (.getfield 22, 3) := by decide +kernel
theorem dX8_meets_134 : decode cX8_meets 134 = .ok (.iload_n 3, 1) := by decide +kernel
theorem dX8_meets_135 : decode cX8_meets 135 = .ok (.iaload, 1) := by decide +kernel
theorem dX8_meets_136 : decode cX8_meets 136 = .ok (.goto 9, 3) := by decide +kernel
theorem dX8_meets_139 : decode cX8_meets 139 = .ok (.aload_n 0, 1) := by decide +kernel
theorem dX8_meets_140 : decode cX8_meets 140 = .ok (.getfield 59, 3) := by decide +kernel
theorem dX8_meets_143 : decode cX8_meets 143 = .ok (.iload_n 1, 1) := by decide +kernel
theorem dX8_meets_144 : decode cX8_meets 144 = .ok (.iaload, 1) := by decide +kernel
theorem dX8_meets_145 : decode cX8_meets 145 = .ok (.iastore, 1) := by decide +kernel
theorem dX8_meets_146 : decode cX8_meets 146 = .ok (.aload_n 0, 1) := by decide +kernel
theorem dX8_meets_147 : decode cX8_meets 147 = .ok (.getfield 101, 3) := by decide +kernel
theorem dX8_meets_150 : decode cX8_meets 150 = .ok (.iload 4, 2) := by decide +kernel
theorem dX8_meets_152 : decode cX8_meets 152 = .ok (.iconst 4, 1) := by decide +kernel
theorem dX8_meets_153 : decode cX8_meets 153 = .ok (.iadd, 1) := by decide +kernel
theorem dX8_meets_154 : decode cX8_meets 154 = .ok (.aload_n 0, 1) := by decide +kernel
theorem dX8_meets_155 : decode cX8_meets 155 = .ok (.getfield 16, 3) := by decide +kernel
theorem dX8_meets_158 : decode cX8_meets 158 = .ok (.iload_n 3, 1) := by decide +kernel
theorem dX8_meets_159 : decode cX8_meets 159 = .ok (.iaload, 1) := by decide +kernel
theorem dX8_meets_160 : decode cX8_meets 160 = .ok (.ifCond .ne 7, 3) := by decide +kernel
theorem dX8_meets_163 : decode cX8_meets 163 = .ok (.iload_n 1, 1) := by decide +kernel
theorem dX8_meets_164 : decode cX8_meets 164 = .ok (.goto 4, 3) := by decide +kernel
theorem dX8_meets_167 : decode cX8_meets 167 = .ok (.iload_n 2, 1) := by decide +kernel
theorem dX8_meets_168 : decode cX8_meets 168 = .ok (.iastore, 1) := by decide +kernel
theorem dX8_meets_169 : decode cX8_meets 169 = .ok (.aload_n 0, 1) := by decide +kernel
theorem dX8_meets_170 : decode cX8_meets 170 = .ok (.getfield 101, 3) := by decide +kernel
theorem dX8_meets_173 : decode cX8_meets 173 = .ok (.iload 4, 2) := by decide +kernel
theorem dX8_meets_175 : decode cX8_meets 175 = .ok (.iconst 5, 1) := by decide +kernel
theorem dX8_meets_176 : decode cX8_meets 176 = .ok (.iadd, 1) := by decide +kernel
theorem dX8_meets_177 : decode cX8_meets 177 = .ok (.aload_n 0, 1) := by decide +kernel
theorem dX8_meets_178 : decode cX8_meets 178 = .ok (.getfield 38, 3) := by decide +kernel
theorem dX8_meets_181 : decode cX8_meets 181 = .ok (.iload_n 1, 1) := by decide +kernel
theorem dX8_meets_182 : decode cX8_meets 182 = .ok (.iaload, 1) := by decide +kernel
theorem dX8_meets_183 : decode cX8_meets 183 = .ok (.iastore, 1) := by decide +kernel
theorem dX8_meets_184 : decode cX8_meets 184 = .ok (.aload_n 0, 1) := by decide +kernel
theorem dX8_meets_185 : decode cX8_meets 185 = .ok (.getfield 101, 3) := by decide +kernel
theorem dX8_meets_188 : decode cX8_meets 188 = .ok (.iload 4, 2) := by decide +kernel
theorem dX8_meets_190 : decode cX8_meets 190 = .ok (.bipush 6, 2) := by decide +kernel
theorem dX8_meets_192 : decode cX8_meets 192 = .ok (.iadd, 1) := by decide +kernel
theorem dX8_meets_193 : decode cX8_meets 193 = .ok (.aload_n 0, 1) := by decide +kernel
theorem dX8_meets_194 : decode cX8_meets 194 = .ok (.getfield 56, 3) := by decide +kernel
theorem dX8_meets_197 : decode cX8_meets 197 = .ok (.iload_n 1, 1) := by decide +kernel
theorem dX8_meets_198 : decode cX8_meets 198 = .ok (.iaload, 1) := by decide +kernel
theorem dX8_meets_199 : decode cX8_meets 199 = .ok (.iastore, 1) := by decide +kernel
theorem dX8_meets_200 : decode cX8_meets 200 = .ok (.aload_n 0, 1) := by decide +kernel
theorem dX8_meets_201 : decode cX8_meets 201 = .ok (.getfield 101, 3) := by decide +kernel
theorem dX8_meets_204 : decode cX8_meets 204 = .ok (.iload 4, 2) := by decide +kernel
theorem dX8_meets_206 : decode cX8_meets 206 = .ok (.bipush 7, 2) := by decide +kernel
theorem dX8_meets_208 : decode cX8_meets 208 = .ok (.iadd, 1) := by decide +kernel
theorem dX8_meets_209 : decode cX8_meets 209 = .ok (.aload_n 0, 1) := by decide +kernel
theorem dX8_meets_210 : decode cX8_meets 210 = .ok (.getfield 176, 3) := by decide +kernel
theorem dX8_meets_213 : decode cX8_meets 213 = .ok (.iastore, 1) := by decide +kernel
theorem dX8_meets_214 : decode cX8_meets 214 = .ok (.aload_n 0, 1) := by decide +kernel
theorem dX8_meets_215 : decode cX8_meets 215 = .ok (.dup, 1) := by decide +kernel
theorem dX8_meets_216 : decode cX8_meets 216 = .ok (.getfield 173, 3) := by decide +kernel
theorem dX8_meets_219 : decode cX8_meets 219 = .ok (.iconst 1, 1) := by decide +kernel
theorem dX8_meets_220 : decode cX8_meets 220 = .ok (.iadd, 1) := by decide +kernel
theorem dX8_meets_221 : decode cX8_meets 221 = .ok (.putfield 173, 3) := by decide +kernel
theorem dX8_meets_224 : decode cX8_meets 224 = .ok (.return_, 1) := by decide +kernel
theorem dX8_tells_0 : decode cX8_tells 0 = .ok (.aload_n 0, 1) := by decide +kernel
theorem dX8_tells_1 : decode cX8_tells 1 = .ok (.getfield 35, 3) := by decide +kernel
theorem dX8_tells_4 : decode cX8_tells 4 = .ok (.iload_n 1, 1) := by decide +kernel
theorem dX8_tells_5 : decode cX8_tells 5 = .ok (.iconst 3, 1) := by decide +kernel
theorem dX8_tells_6 : decode cX8_tells 6 = .ok (.iastore, 1) := by decide +kernel
theorem dX8_tells_7 : decode cX8_tells 7 = .ok (.aload_n 0, 1) := by decide +kernel
theorem dX8_tells_8 : decode cX8_tells 8 = .ok (.getfield 68, 3) := by decide +kernel
theorem dX8_tells_11 : decode cX8_tells 11 = .ok (.iload_n 1, 1) := by decide +kernel
theorem dX8_tells_12 : decode cX8_tells 12 = .ok (.iconst 1, 1) := by decide +kernel
theorem dX8_tells_13 : decode cX8_tells 13 = .ok (.bastore, 1) := by decide +kernel
theorem dX8_tells_14 : decode cX8_tells 14 = .ok (.aload_n 0, 1) := by decide +kernel
theorem dX8_tells_15 : decode cX8_tells 15 = .ok (.getfield 71, 3) := by decide +kernel
theorem dX8_tells_18 : decode cX8_tells 18 = .ok (.iload_n 1, 1) := by decide +kernel
theorem dX8_tells_19 : decode cX8_tells 19 = .ok (.iload_n 2, 1) := by decide +kernel
theorem dX8_tells_20 : decode cX8_tells 20 = .ok (.iastore, 1) := by decide +kernel
theorem dX8_tells_21 : decode cX8_tells 21 = .ok (.aload_n 0, 1) := by decide +kernel
theorem dX8_tells_22 : decode cX8_tells 22 = .ok (.getfield 77, 3) := by decide +kernel
theorem dX8_tells_25 : decode cX8_tells 25 = .ok (.iload_n 1, 1) := by decide +kernel
theorem dX8_tells_26 : decode cX8_tells 26 = .ok (.iload_n 3, 1) := by decide +kernel
theorem dX8_tells_27 : decode cX8_tells 27 = .ok (.iastore, 1) := by decide +kernel
theorem dX8_tells_28 : decode cX8_tells 28 = .ok (.aload_n 0, 1) := by decide +kernel
theorem dX8_tells_29 : decode cX8_tells 29 = .ok (.getfield 80, 3) := by decide +kernel
theorem dX8_tells_32 : decode cX8_tells 32 = .ok (.iload_n 1, 1) := by decide +kernel
theorem dX8_tells_33 : decode cX8_tells 33 = .ok (.aload_n 0, 1) := by decide +kernel
theorem dX8_tells_34 : decode cX8_tells 34 = .ok (.getfield 38, 3) := by decide +kernel
theorem dX8_tells_37 : decode cX8_tells 37 = .ok (.iload_n 1, 1) := by decide +kernel
theorem dX8_tells_38 : decode cX8_tells 38 = .ok (.iaload, 1) := by decide +kernel
theorem dX8_tells_39 : decode cX8_tells 39 = .ok (.iastore, 1) := by decide +kernel
theorem dX8_tells_40 : decode cX8_tells 40 = .ok (.return_, 1) := by decide +kernel
theorem dX8_ends_0 : decode cX8_ends 0 = .ok (.aload_n 0, 1) := by decide +kernel
theorem dX8_ends_1 : decode cX8_ends 1 = .ok (.getfield 35, 3) := by decide +kernel
theorem dX8_ends_4 : decode cX8_ends 4 = .ok (.iload_n 1, 1) := by decide +kernel
theorem dX8_ends_5 : decode cX8_ends 5 = .ok (.iaload, 1) := by decide +kernel
theorem dX8_ends_6 : decode cX8_ends 6 = .ok (.iconst 1, 1) := by decide +kernel
theorem dX8_ends_7 : decode cX8_ends 7 = .ok (.if_icmp .ne 23, 3) := by decide +kernel
theorem dX8_ends_10 : decode cX8_ends 10 = .ok (.aload_n 0, 1) := by decide +kernel
theorem dX8_ends_11 : decode cX8_ends 11 = .ok (.iload_n 1, 1) := by decide +kernel
theorem dX8_ends_12 : decode cX8_ends 12 = .ok (.invokevirtual 179, 3) := by decide +kernel
theorem dX8_ends_15 : decode cX8_ends 15 = .ok (.aload_n 0, 1) := by decide +kernel
theorem dX8_ends_16 : decode cX8_ends 16 = .ok (.getfield 65, 3) := by decide +kernel
theorem dX8_ends_19 : decode cX8_ends 19 = .ok (.iload_n 1, 1) := by decide +kernel
theorem dX8_ends_20 : decode cX8_ends 20 = .ok (.iconst 1, 1) := by decide +kernel
theorem dX8_ends_21 : decode cX8_ends 21 = .ok (.bastore, 1) := by decide +kernel
theorem dX8_ends_22 : decode cX8_ends 22 = .ok (.aload_n 0, 1) := by decide +kernel
theorem dX8_ends_23 : decode cX8_ends 23 = .ok (.iload_n 1, 1) := by decide +kernel
theorem dX8_ends_24 : decode cX8_ends 24 = .ok (.invokevirtual 163, 3) := by decide +kernel
theorem dX8_ends_27 : decode cX8_ends 27 = .ok (.goto 18, 3) := by decide +kernel
theorem dX8_ends_30 : decode cX8_ends 30 = .ok (.aload_n 0, 1) := by decide +kernel
theorem dX8_ends_31 : decode cX8_ends 31 = .ok (.getfield 35, 3) := by decide +kernel
theorem dX8_ends_34 : decode cX8_ends 34 = .ok (.iload_n 1, 1) := by decide +kernel
theorem dX8_ends_35 : decode cX8_ends 35 = .ok (.iaload, 1) := by decide +kernel
theorem dX8_ends_36 : decode cX8_ends 36 = .ok (.iconst 3, 1) := by decide +kernel
theorem dX8_ends_37 : decode cX8_ends 37 = .ok (.if_icmp .ne 8, 3) := by decide +kernel
theorem dX8_ends_40 : decode cX8_ends 40 = .ok (.aload_n 0, 1) := by decide +kernel
theorem dX8_ends_41 : decode cX8_ends 41 = .ok (.iload_n 1, 1) := by decide +kernel
theorem dX8_ends_42 : decode cX8_ends 42 = .ok (.invokevirtual 163, 3) := by decide +kernel
theorem dX8_ends_45 : decode cX8_ends 45 = .ok (.return_, 1) := by decide +kernel
theorem dX8_goesOut_0 : decode cX8_goesOut 0 = .ok (.aload_n 0, 1) := by decide +kernel
theorem dX8_goesOut_1 : decode cX8_goesOut 1 = .ok (.getfield 35, 3) := by decide +kernel
theorem dX8_goesOut_4 : decode cX8_goesOut 4 = .ok (.iload_n 1, 1) := by decide +kernel
theorem dX8_goesOut_5 : decode cX8_goesOut 5 = .ok (.iconst 4, 1) := by decide +kernel
theorem dX8_goesOut_6 : decode cX8_goesOut 6 = .ok (.iastore, 1) := by decide +kernel
theorem dX8_goesOut_7 : decode cX8_goesOut 7 = .ok (.aload_n 0, 1) := by decide +kernel
theorem dX8_goesOut_8 : decode cX8_goesOut 8 = .ok (.getfield 107, 3) := by decide +kernel
theorem dX8_goesOut_11 : decode cX8_goesOut 11 = .ok (.sipush 1001, 3) := by decide +kernel
theorem dX8_goesOut_14 : decode cX8_goesOut 14 = .ok (.iload_n 1, 1) := by decide +kernel
theorem dX8_goesOut_15 : decode cX8_goesOut 15 = .ok (.imul, 1) := by decide +kernel
theorem dX8_goesOut_16 : decode cX8_goesOut 16 = .ok (.aload_n 0, 1) := by decide +kernel
theorem dX8_goesOut_17 : decode cX8_goesOut 17 = .ok (.getfield 38, 3) := by decide +kernel
theorem dX8_goesOut_20 : decode cX8_goesOut 20 = .ok (.iload_n 1, 1) := by decide +kernel
theorem dX8_goesOut_21 : decode cX8_goesOut 21 = .ok (.iaload, 1) := by decide +kernel
theorem dX8_goesOut_22 : decode cX8_goesOut 22 = .ok (.iadd, 1) := by decide +kernel
theorem dX8_goesOut_23 : decode cX8_goesOut 23 = .ok (.iconst 1, 1) := by decide +kernel
theorem dX8_goesOut_24 : decode cX8_goesOut 24 = .ok (.bastore, 1) := by decide +kernel
theorem dX8_goesOut_25 : decode cX8_goesOut 25 = .ok (.return_, 1) := by decide +kernel
theorem dX8_isDue_0 : decode cX8_isDue 0 = .ok (.aload_n 0, 1) := by decide +kernel
theorem dX8_isDue_1 : decode cX8_isDue 1 = .ok (.getfield 9, 3) := by decide +kernel
theorem dX8_isDue_4 : decode cX8_isDue 4 = .ok (.iload_n 1, 1) := by decide +kernel
theorem dX8_isDue_5 : decode cX8_isDue 5 = .ok (.iaload, 1) := by decide +kernel
theorem dX8_isDue_6 : decode cX8_isDue 6 = .ok (.iconst 2, 1) := by decide +kernel
theorem dX8_isDue_7 : decode cX8_isDue 7 = .ok (.if_icmp .eq 35, 3) := by decide +kernel
theorem dX8_isDue_10 : decode cX8_isDue 10 = .ok (.aload_n 0, 1) := by decide +kernel
theorem dX8_isDue_11 : decode cX8_isDue 11 = .ok (.getfield 9, 3) := by decide +kernel
theorem dX8_isDue_14 : decode cX8_isDue 14 = .ok (.iload_n 1, 1) := by decide +kernel
theorem dX8_isDue_15 : decode cX8_isDue 15 = .ok (.iaload, 1) := by decide +kernel
theorem dX8_isDue_16 : decode cX8_isDue 16 = .ok (.iconst 3, 1) := by decide +kernel
theorem dX8_isDue_17 : decode cX8_isDue 17 = .ok (.if_icmp .eq 25, 3) := by decide +kernel
theorem dX8_isDue_20 : decode cX8_isDue 20 = .ok (.aload_n 0, 1) := by decide +kernel
theorem dX8_isDue_21 : decode cX8_isDue 21 = .ok (.getfield 9, 3) := by decide +kernel
theorem dX8_isDue_24 : decode cX8_isDue 24 = .ok (.iload_n 1, 1) := by decide +kernel
theorem dX8_isDue_25 : decode cX8_isDue 25 = .ok (.iaload, 1) := by decide +kernel
theorem dX8_isDue_26 : decode cX8_isDue 26 = .ok (.bipush 9, 2) := by decide +kernel
theorem dX8_isDue_28 : decode cX8_isDue 28 = .ok (.if_icmp .eq 14, 3) := by decide +kernel
theorem dX8_isDue_31 : decode cX8_isDue 31 = .ok (.aload_n 0, 1) := by decide +kernel
theorem dX8_isDue_32 : decode cX8_isDue 32 = .ok (.getfield 9, 3) := by decide +kernel
theorem dX8_isDue_35 : decode cX8_isDue 35 = .ok (.iload_n 1, 1) := by decide +kernel
theorem dX8_isDue_36 : decode cX8_isDue 36 = .ok (.iaload, 1) := by decide +kernel
theorem dX8_isDue_37 : decode cX8_isDue 37 = .ok (.bipush 10, 2) := by decide +kernel
theorem dX8_isDue_39 : decode cX8_isDue 39 = .ok (.if_icmp .ne 7, 3) := by decide +kernel
theorem dX8_isDue_42 : decode cX8_isDue 42 = .ok (.iconst 1, 1) := by decide +kernel
theorem dX8_isDue_43 : decode cX8_isDue 43 = .ok (.goto 4, 3) := by decide +kernel
theorem dX8_isDue_46 : decode cX8_isDue 46 = .ok (.iconst 0, 1) := by decide +kernel
theorem dX8_isDue_47 : decode cX8_isDue 47 = .ok (.istore_n 2, 1) := by decide +kernel
theorem dX8_isDue_48 : decode cX8_isDue 48 = .ok (.iload_n 2, 1) := by decide +kernel
theorem dX8_isDue_49 : decode cX8_isDue 49 = .ok (.ifCond .eq 30, 3) := by decide +kernel
theorem dX8_isDue_52 : decode cX8_isDue 52 = .ok (.aload_n 0, 1) := by decide +kernel
theorem dX8_isDue_53 : decode cX8_isDue 53 = .ok (.getfield 32, 3) := by decide +kernel
theorem dX8_isDue_56 : decode cX8_isDue 56 = .ok (.iload_n 1, 1) := by decide +kernel
theorem dX8_isDue_57 : decode cX8_isDue 57 = .ok (.iaload, 1) := by decide +kernel
theorem dX8_isDue_58 : decode cX8_isDue 58 = .ok (.iconst (-1), 1) := by decide +kernel
theorem dX8_isDue_59 : decode cX8_isDue 59 = .ok (.if_icmp .eq 20, 3) := by decide +kernel
theorem dX8_isDue_62 : decode cX8_isDue 62 = .ok (.aload_n 0, 1) := by decide +kernel
theorem dX8_isDue_63 : decode cX8_isDue 63 = .ok (.getfield 130, 3) := by decide +kernel
theorem dX8_isDue_66 : decode cX8_isDue 66 = .ok (.aload_n 0, 1) := by decide +kernel
theorem dX8_isDue_67 : decode cX8_isDue 67 = .ok (.getfield 32, 3) := by decide +kernel
theorem dX8_isDue_70 : decode cX8_isDue 70 = .ok (.iload_n 1, 1) := by decide +kernel
theorem dX8_isDue_71 : decode cX8_isDue 71 = .ok (.iaload, 1) := by decide +kernel
theorem dX8_isDue_72 : decode cX8_isDue 72 = .ok (.if_icmp .lt 7, 3) := by decide +kernel
theorem dX8_isDue_75 : decode cX8_isDue 75 = .ok (.iconst 1, 1) := by decide +kernel
theorem dX8_isDue_76 : decode cX8_isDue 76 = .ok (.goto 4, 3) := by decide +kernel
theorem dX8_isDue_79 : decode cX8_isDue 79 = .ok (.iconst 0, 1) := by decide +kernel
theorem dX8_isDue_80 : decode cX8_isDue 80 = .ok (.ireturn, 1) := by decide +kernel
theorem dX8_turns_0 : decode cX8_turns 0 = .ok (.aload_n 0, 1) := by decide +kernel
theorem dX8_turns_1 : decode cX8_turns 1 = .ok (.dup, 1) := by decide +kernel
theorem dX8_turns_2 : decode cX8_turns 2 = .ok (.getfield 176, 3) := by decide +kernel
theorem dX8_turns_5 : decode cX8_turns 5 = .ok (.iconst 1, 1) := by decide +kernel
theorem dX8_turns_6 : decode cX8_turns 6 = .ok (.iadd, 1) := by decide +kernel
theorem dX8_turns_7 : decode cX8_turns 7 = .ok (.putfield 176, 3) := by decide +kernel
theorem dX8_turns_10 : decode cX8_turns 10 = .ok (.bipush 8, 2) := by decide +kernel
theorem dX8_turns_12 : decode cX8_turns 12 = .ok (.iload_n 1, 1) := by decide +kernel
theorem dX8_turns_13 : decode cX8_turns 13 = .ok (.imul, 1) := by decide +kernel
theorem dX8_turns_14 : decode cX8_turns 14 = .ok (.aload_n 0, 1) := by decide +kernel
theorem dX8_turns_15 : decode cX8_turns 15 = .ok (.getfield 44, 3) := by decide +kernel
theorem dX8_turns_18 : decode cX8_turns 18 = .ok (.iload_n 1, 1) := by decide +kernel
theorem dX8_turns_19 : decode cX8_turns 19 = .ok (.iaload, 1) := by decide +kernel
theorem dX8_turns_20 : decode cX8_turns 20 = .ok (.iconst (-1), 1) := by decide +kernel
theorem dX8_turns_21 : decode cX8_turns 21 = .ok (.if_icmp .ne 7, 3) := by decide +kernel
theorem dX8_turns_24 : decode cX8_turns 24 = .ok (.iconst 0, 1) := by decide +kernel
theorem dX8_turns_25 : decode cX8_turns 25 = .ok (.goto 9, 3) := by decide +kernel
theorem dX8_turns_28 : decode cX8_turns 28 = .ok (.aload_n 0, 1) := by decide +kernel
theorem dX8_turns_29 : decode cX8_turns 29 = .ok (.getfield 44, 3) := by decide +kernel
theorem dX8_turns_32 : decode cX8_turns 32 = .ok (.iload_n 1, 1) := by decide +kernel
theorem dX8_turns_33 : decode cX8_turns 33 = .ok (.iaload, 1) := by decide +kernel
theorem dX8_turns_34 : decode cX8_turns 34 = .ok (.iadd, 1) := by decide +kernel
theorem dX8_turns_35 : decode cX8_turns 35 = .ok (.istore_n 2, 1) := by decide +kernel
theorem dX8_turns_36 : decode cX8_turns 36 = .ok (.aload_n 0, 1) := by decide +kernel
theorem dX8_turns_37 : decode cX8_turns 37 = .ok (.iload_n 1, 1) := by decide +kernel
theorem dX8_turns_38 : decode cX8_turns 38 = .ok (.invokevirtual 182, 3) := by decide +kernel
theorem dX8_turns_41 : decode cX8_turns 41 = .ok (.ifCond .eq 9, 3) := by decide +kernel
theorem dX8_turns_44 : decode cX8_turns 44 = .ok (.aload_n 0, 1) := by decide +kernel
theorem dX8_turns_45 : decode cX8_turns 45 = .ok (.iload_n 1, 1) := by decide +kernel
theorem dX8_turns_46 : decode cX8_turns 46 = .ok (.invokevirtual 185, 3) := by decide +kernel
theorem dX8_turns_49 : decode cX8_turns 49 = .ok (.return_, 1) := by decide +kernel
theorem dX8_turns_50 : decode cX8_turns 50 = .ok (.aload_n 0, 1) := by decide +kernel
theorem dX8_turns_51 : decode cX8_turns 51 = .ok (.getfield 9, 3) := by decide +kernel
theorem dX8_turns_54 : decode cX8_turns 54 = .ok (.iload_n 1, 1) := by decide +kernel
theorem dX8_turns_55 : decode cX8_turns 55 = .ok (.iaload, 1) := by decide +kernel
theorem dX8_turns_56 : decode cX8_turns 56 = .ok (.tableswitch 276 2 8 #[44, 90, 98, 106, 114, 167, 225], 44) := by decide +kernel
theorem dX8_turns_100 : decode cX8_turns 100 = .ok (.aload_n 0, 1) := by decide +kernel
theorem dX8_turns_101 : decode cX8_turns 101 = .ok (.iload_n 1, 1) := by decide +kernel
theorem dX8_turns_102 : decode cX8_turns 102 = .ok (.invokevirtual 188, 3) := by decide +kernel
theorem dX8_turns_105 : decode cX8_turns 105 = .ok (.aload_n 0, 1) := by decide +kernel
theorem dX8_turns_106 : decode cX8_turns 106 = .ok (.getfield 44, 3) := by decide +kernel
theorem dX8_turns_109 : decode cX8_turns 109 = .ok (.iload_n 1, 1) := by decide +kernel
theorem dX8_turns_110 : decode cX8_turns 110 = .ok (.aload_n 0, 1) := by decide +kernel
theorem dX8_turns_111 : decode cX8_turns 111 = .ok (.iload_n 1, 1) := by decide +kernel
theorem dX8_turns_112 : decode cX8_turns 112 = .ok (.aload_n 0, 1) := by decide +kernel
theorem dX8_turns_113 : decode cX8_turns 113 = .ok (.getfield 44, 3) := by decide +kernel
theorem dX8_turns_116 : decode cX8_turns 116 = .ok (.iload_n 1, 1) := by decide +kernel
theorem dX8_turns_117 : decode cX8_turns 117 = .ok (.iaload, 1) := by decide +kernel
theorem dX8_turns_118 : decode cX8_turns 118 = .ok (.invokevirtual 126, 3) := by decide +kernel
theorem dX8_turns_121 : decode cX8_turns 121 = .ok (.iastore, 1) := by decide +kernel
theorem dX8_turns_122 : decode cX8_turns 122 = .ok (.aload_n 0, 1) := by decide +kernel
theorem dX8_turns_123 : decode cX8_turns 123 = .ok (.getfield 44, 3) := by decide +kernel
theorem dX8_turns_126 : decode cX8_turns 126 = .ok (.iload_n 1, 1) := by decide +kernel
theorem dX8_turns_127 : decode cX8_turns 127 = .ok (.iaload, 1) := by decide +kernel
theorem dX8_turns_128 : decode cX8_turns 128 = .ok (.iconst (-1), 1) := by decide +kernel
theorem dX8_turns_129 : decode cX8_turns 129 = .ok (.if_icmp .ne 208, 3) := by decide +kernel
theorem dX8_turns_132 : decode cX8_turns 132 = .ok (.aload_n 0, 1) := by decide +kernel
theorem dX8_turns_133 : decode cX8_turns 133 = .ok (.iload_n 1, 1) := by decide +kernel
theorem dX8_turns_134 : decode cX8_turns 134 = .ok (.aload_n 0, 1) := by decide +kernel
theorem dX8_turns_135 : decode cX8_turns 135 = .ok (.iload_n 1, 1) := by decide +kernel
theorem dX8_turns_136 : decode cX8_turns 136 = .ok (.iconst (-1), 1) := by decide +kernel
theorem dX8_turns_137 : decode cX8_turns 137 = .ok (.invokevirtual 126, 3) := by decide +kernel
theorem dX8_turns_140 : decode cX8_turns 140 = .ok (.invokevirtual 149, 3) := by decide +kernel
theorem dX8_turns_143 : decode cX8_turns 143 = .ok (.goto 194, 3) := by decide +kernel
theorem dX8_turns_146 : decode cX8_turns 146 = .ok (.aload_n 0, 1) := by decide +kernel
theorem dX8_turns_147 : decode cX8_turns 147 = .ok (.iload_n 1, 1) := by decide +kernel
theorem dX8_turns_148 : decode cX8_turns 148 = .ok (.invokevirtual 191, 3) := by decide +kernel
theorem dX8_turns_151 : decode cX8_turns 151 = .ok (.goto 186, 3) := by decide +kernel
theorem dX8_turns_154 : decode cX8_turns 154 = .ok (.aload_n 0, 1) := by decide +kernel
theorem dX8_turns_155 : decode cX8_turns 155 = .ok (.iload_n 1, 1) := by decide +kernel
theorem dX8_turns_156 : decode cX8_turns 156 = .ok (.invokevirtual 194, 3) := by decide +kernel
theorem dX8_turns_159 : decode cX8_turns 159 = .ok (.goto 178, 3) := by decide +kernel
theorem dX8_turns_162 : decode cX8_turns 162 = .ok (.aload_n 0, 1) := by decide +kernel
theorem dX8_turns_163 : decode cX8_turns 163 = .ok (.iload_n 1, 1) := by decide +kernel
theorem dX8_turns_164 : decode cX8_turns 164 = .ok (.invokevirtual 197, 3) := by decide +kernel
theorem dX8_turns_167 : decode cX8_turns 167 = .ok (.goto 170, 3) := by decide +kernel
theorem dX8_turns_170 : decode cX8_turns 170 = .ok (.aload_n 0, 1) := by decide +kernel
theorem dX8_turns_171 : decode cX8_turns 171 = .ok (.getfield 35, 3) := by decide +kernel
theorem dX8_turns_174 : decode cX8_turns 174 = .ok (.iload_n 1, 1) := by decide +kernel
theorem dX8_turns_175 : decode cX8_turns 175 = .ok (.aload_n 0, 1) := by decide +kernel
theorem dX8_turns_176 : decode cX8_turns 176 = .ok (.getfield 53, 3) := by decide +kernel
theorem dX8_turns_179 : decode cX8_turns 179 = .ok (.iload_n 1, 1) := by decide +kernel
theorem dX8_turns_180 : decode cX8_turns 180 = .ok (.iaload, 1) := by decide +kernel
theorem dX8_turns_181 : decode cX8_turns 181 = .ok (.if_icmp .ge 7, 3) := by decide +kernel
theorem dX8_turns_184 : decode cX8_turns 184 = .ok (.iload_n 1, 1) := by decide +kernel
theorem dX8_turns_185 : decode cX8_turns 185 = .ok (.goto 9, 3) := by decide +kernel
theorem dX8_turns_188 : decode cX8_turns 188 = .ok (.aload_n 0, 1) := by decide +kernel
theorem dX8_turns_189 : decode cX8_turns 189 = .ok (.getfield 53, 3) := by decide +kernel
theorem dX8_turns_192 : decode cX8_turns 192 = .ok (.iload_n 1, 1) := by decide +kernel
theorem dX8_turns_193 : decode cX8_turns 193 = .ok (.iaload, 1) := by decide +kernel
theorem dX8_turns_194 : decode cX8_turns 194 = .ok (.iconst 1, 1) := by decide +kernel
theorem dX8_turns_195 : decode cX8_turns 195 = .ok (.iastore, 1) := by decide +kernel
theorem dX8_turns_196 : decode cX8_turns 196 = .ok (.aload_n 0, 1) := by decide +kernel
theorem dX8_turns_197 : decode cX8_turns 197 = .ok (.getfield 62, 3) := by decide +kernel
theorem dX8_turns_200 : decode cX8_turns 200 = .ok (.iload_n 1, 1) := by decide +kernel
theorem dX8_turns_201 : decode cX8_turns 201 = .ok (.baload, 1) := by decide +kernel
theorem dX8_turns_202 : decode cX8_turns 202 = .ok (.ifCond .eq 11, 3) := by decide +kernel
theorem dX8_turns_205 : decode cX8_turns 205 = .ok (.aload_n 0, 1) := by decide +kernel
theorem dX8_turns_206 : decode cX8_turns 206 = .ok (.iload_n 1, 1) := by decide +kernel
theorem dX8_turns_207 : decode cX8_turns 207 = .ok (.invokevirtual 163, 3) := by decide +kernel
theorem dX8_turns_210 : decode cX8_turns 210 = .ok (.goto 127, 3) := by decide +kernel
theorem dX8_turns_213 : decode cX8_turns 213 = .ok (.aload_n 0, 1) := by decide +kernel
theorem dX8_turns_214 : decode cX8_turns 214 = .ok (.getfield 9, 3) := by decide +kernel
theorem dX8_turns_217 : decode cX8_turns 217 = .ok (.iload_n 1, 1) := by decide +kernel
theorem dX8_turns_218 : decode cX8_turns 218 = .ok (.iconst 3, 1) := by decide +kernel
theorem dX8_turns_219 : decode cX8_turns 219 = .ok (.iastore, 1) := by decide +kernel
theorem dX8_turns_220 : decode cX8_turns 220 = .ok (.goto 117, 3) := by decide +kernel
theorem dX8_turns_223 : decode cX8_turns 223 = .ok (.aload_n 0, 1) := by decide +kernel
theorem dX8_turns_224 : decode cX8_turns 224 = .ok (.aload_n 0, 1) := by decide +kernel
theorem dX8_turns_225 : decode cX8_turns 225 = .ok (.getfield 53, 3) := by decide +kernel
theorem dX8_turns_228 : decode cX8_turns 228 = .ok (.iload_n 1, 1) := by decide +kernel
theorem dX8_turns_229 : decode cX8_turns 229 = .ok (.iaload, 1) := by decide +kernel
theorem dX8_turns_230 : decode cX8_turns 230 = .ok (.iload_n 1, 1) := by decide +kernel
theorem dX8_turns_231 : decode cX8_turns 231 = .ok (.aload_n 0, 1) := by decide +kernel
theorem dX8_turns_232 : decode cX8_turns 232 = .ok (.getfield 16, 3) := by decide +kernel
theorem dX8_turns_235 : decode cX8_turns 235 = .ok (.iload_n 2, 1) := by decide +kernel
theorem dX8_turns_236 : decode cX8_turns 236 = .ok (.iaload, 1) := by decide +kernel
theorem dX8_turns_237 : decode cX8_turns 237 = .ok (.ifCond .ne 12, 3) := by decide +kernel
theorem dX8_turns_240 : decode cX8_turns 240 = .ok (.aload_n 0, 1) := by decide +kernel
theorem dX8_turns_241 : decode cX8_turns 241 = .ok (.getfield 22, 3) := by decide +kernel
theorem dX8_turns_244 : decode cX8_turns 244 = .ok (.iload_n 2, 1) := by decide +kernel
theorem dX8_turns_245 : decode cX8_turns 245 = .ok (.iaload, 1) := by decide +kernel
theorem dX8_turns_246 : decode cX8_turns 246 = .ok (.goto 4, 3) := by decide +kernel
theorem dX8_turns_249 : decode cX8_turns 249 = .ok (.iconst 0, 1) := by decide +kernel
theorem dX8_turns_250 : decode cX8_turns 250 = .ok (.invokevirtual 200, 3) := by decide +kernel
theorem dX8_turns_253 : decode cX8_turns 253 = .ok (.aload_n 0, 1) := by decide +kernel
theorem dX8_turns_254 : decode cX8_turns 254 = .ok (.getfield 74, 3) := by decide +kernel
theorem dX8_turns_257 : decode cX8_turns 257 = .ok (.aload_n 0, 1) := by decide +kernel
theorem dX8_turns_258 : decode cX8_turns 258 = .ok (.getfield 53, 3) := by decide +kernel
theorem dX8_turns_261 : decode cX8_turns 261 = .ok (.iload_n 1, 1) := by decide +kernel
theorem dX8_turns_262 : decode cX8_turns 262 = .ok (.iaload, 1) := by decide +kernel
theorem dX8_turns_263 : decode cX8_turns 263 = .ok (.aload_n 0, 1) := by decide +kernel
theorem dX8_turns_264 : decode cX8_turns 264 = .ok (.getfield 19, 3) := by decide +kernel
theorem dX8_turns_267 : decode cX8_turns 267 = .ok (.iload_n 2, 1) := by decide +kernel
theorem dX8_turns_268 : decode cX8_turns 268 = .ok (.iaload, 1) := by decide +kernel
theorem dX8_turns_269 : decode cX8_turns 269 = .ok (.iastore, 1) := by decide +kernel
theorem dX8_turns_270 : decode cX8_turns 270 = .ok (.aload_n 0, 1) := by decide +kernel
theorem dX8_turns_271 : decode cX8_turns 271 = .ok (.getfield 9, 3) := by decide +kernel
theorem dX8_turns_274 : decode cX8_turns 274 = .ok (.iload_n 1, 1) := by decide +kernel
theorem dX8_turns_275 : decode cX8_turns 275 = .ok (.bipush 8, 2) := by decide +kernel
theorem dX8_turns_277 : decode cX8_turns 277 = .ok (.iastore, 1) := by decide +kernel
theorem dX8_turns_278 : decode cX8_turns 278 = .ok (.goto 59, 3) := by decide +kernel
theorem dX8_turns_281 : decode cX8_turns 281 = .ok (.aload_n 0, 1) := by decide +kernel
theorem dX8_turns_282 : decode cX8_turns 282 = .ok (.iload_n 1, 1) := by decide +kernel
theorem dX8_turns_283 : decode cX8_turns 283 = .ok (.aload_n 0, 1) := by decide +kernel
theorem dX8_turns_284 : decode cX8_turns 284 = .ok (.getfield 53, 3) := by decide +kernel
theorem dX8_turns_287 : decode cX8_turns 287 = .ok (.iload_n 1, 1) := by decide +kernel
theorem dX8_turns_288 : decode cX8_turns 288 = .ok (.iaload, 1) := by decide +kernel
theorem dX8_turns_289 : decode cX8_turns 289 = .ok (.aload_n 0, 1) := by decide +kernel
theorem dX8_turns_290 : decode cX8_turns 290 = .ok (.getfield 16, 3) := by decide +kernel
theorem dX8_turns_293 : decode cX8_turns 293 = .ok (.iload_n 2, 1) := by decide +kernel
theorem dX8_turns_294 : decode cX8_turns 294 = .ok (.iaload, 1) := by decide +kernel
theorem dX8_turns_295 : decode cX8_turns 295 = .ok (.iconst 1, 1) := by decide +kernel
theorem dX8_turns_296 : decode cX8_turns 296 = .ok (.if_icmp .ne 12, 3) := by decide +kernel
theorem dX8_turns_299 : decode cX8_turns 299 = .ok (.aload_n 0, 1) := by decide +kernel
theorem dX8_turns_300 : decode cX8_turns 300 = .ok (.getfield 59, 3) := by decide +kernel
theorem dX8_turns_303 : decode cX8_turns 303 = .ok (.iload_n 1, 1) := by decide +kernel
theorem dX8_turns_304 : decode cX8_turns 304 = .ok (.iaload, 1) := by decide +kernel
theorem dX8_turns_305 : decode cX8_turns 305 = .ok (.goto 4, 3) := by decide +kernel
theorem dX8_turns_308 : decode cX8_turns 308 = .ok (.iconst 0, 1) := by decide +kernel
theorem dX8_turns_309 : decode cX8_turns 309 = .ok (.invokevirtual 200, 3) := by decide +kernel
theorem dX8_turns_312 : decode cX8_turns 312 = .ok (.aload_n 0, 1) := by decide +kernel
theorem dX8_turns_313 : decode cX8_turns 313 = .ok (.getfield 74, 3) := by decide +kernel
theorem dX8_turns_316 : decode cX8_turns 316 = .ok (.iload_n 1, 1) := by decide +kernel
theorem dX8_turns_317 : decode cX8_turns 317 = .ok (.aload_n 0, 1) := by decide +kernel
theorem dX8_turns_318 : decode cX8_turns 318 = .ok (.getfield 19, 3) := by decide +kernel
theorem dX8_turns_321 : decode cX8_turns 321 = .ok (.iload_n 2, 1) := by decide +kernel
theorem dX8_turns_322 : decode cX8_turns 322 = .ok (.iaload, 1) := by decide +kernel
theorem dX8_turns_323 : decode cX8_turns 323 = .ok (.iastore, 1) := by decide +kernel
theorem dX8_turns_324 : decode cX8_turns 324 = .ok (.aload_n 0, 1) := by decide +kernel
theorem dX8_turns_325 : decode cX8_turns 325 = .ok (.iload_n 1, 1) := by decide +kernel
theorem dX8_turns_326 : decode cX8_turns 326 = .ok (.invokevirtual 163, 3) := by decide +kernel
theorem dX8_turns_329 : decode cX8_turns 329 = .ok (.goto 8, 3) := by decide +kernel
theorem dX8_turns_332 : decode cX8_turns 332 = .ok (.aload_n 0, 1) := by decide +kernel
theorem dX8_turns_333 : decode cX8_turns 333 = .ok (.iload_n 1, 1) := by decide +kernel
theorem dX8_turns_334 : decode cX8_turns 334 = .ok (.invokevirtual 203, 3) := by decide +kernel
theorem dX8_turns_337 : decode cX8_turns 337 = .ok (.return_, 1) := by decide +kernel
theorem dX8_rests_0 : decode cX8_rests 0 = .ok (.aload_n 0, 1) := by decide +kernel
theorem dX8_rests_1 : decode cX8_rests 1 = .ok (.getfield 9, 3) := by decide +kernel
theorem dX8_rests_4 : decode cX8_rests 4 = .ok (.iload_n 1, 1) := by decide +kernel
theorem dX8_rests_5 : decode cX8_rests 5 = .ok (.iaload, 1) := by decide +kernel
theorem dX8_rests_6 : decode cX8_rests 6 = .ok (.bipush 11, 2) := by decide +kernel
theorem dX8_rests_8 : decode cX8_rests 8 = .ok (.if_icmp .ne 20, 3) := by decide +kernel
theorem dX8_rests_11 : decode cX8_rests 11 = .ok (.aload_n 0, 1) := by decide +kernel
theorem dX8_rests_12 : decode cX8_rests 12 = .ok (.aload_n 0, 1) := by decide +kernel
theorem dX8_rests_13 : decode cX8_rests 13 = .ok (.iload_n 1, 1) := by decide +kernel
theorem dX8_rests_14 : decode cX8_rests 14 = .ok (.invokevirtual 139, 3) := by decide +kernel
theorem dX8_rests_17 : decode cX8_rests 17 = .ok (.invokevirtual 206, 3) := by decide +kernel
theorem dX8_rests_20 : decode cX8_rests 20 = .ok (.aload_n 0, 1) := by decide +kernel
theorem dX8_rests_21 : decode cX8_rests 21 = .ok (.iload_n 1, 1) := by decide +kernel
theorem dX8_rests_22 : decode cX8_rests 22 = .ok (.invokevirtual 163, 3) := by decide +kernel
theorem dX8_rests_25 : decode cX8_rests 25 = .ok (.goto 85, 3) := by decide +kernel
theorem dX8_rests_28 : decode cX8_rests 28 = .ok (.aload_n 0, 1) := by decide +kernel
theorem dX8_rests_29 : decode cX8_rests 29 = .ok (.iload_n 1, 1) := by decide +kernel
theorem dX8_rests_30 : decode cX8_rests 30 = .ok (.invokevirtual 160, 3) := by decide +kernel
theorem dX8_rests_33 : decode cX8_rests 33 = .ok (.ifCond .eq 11, 3) := by decide +kernel
theorem dX8_rests_36 : decode cX8_rests 36 = .ok (.aload_n 0, 1) := by decide +kernel
theorem dX8_rests_37 : decode cX8_rests 37 = .ok (.iload_n 1, 1) := by decide +kernel
theorem dX8_rests_38 : decode cX8_rests 38 = .ok (.invokevirtual 163, 3) := by decide +kernel
theorem dX8_rests_41 : decode cX8_rests 41 = .ok (.goto 69, 3) := by decide +kernel
theorem dX8_rests_44 : decode cX8_rests 44 = .ok (.aload_n 0, 1) := by decide +kernel
theorem dX8_rests_45 : decode cX8_rests 45 = .ok (.getfield 9, 3) := by decide +kernel
theorem dX8_rests_48 : decode cX8_rests 48 = .ok (.iload_n 1, 1) := by decide +kernel
theorem dX8_rests_49 : decode cX8_rests 49 = .ok (.iaload, 1) := by decide +kernel
theorem dX8_rests_50 : decode cX8_rests 50 = .ok (.bipush 9, 2) := by decide +kernel
theorem dX8_rests_52 : decode cX8_rests 52 = .ok (.if_icmp .ne 43, 3) := by decide +kernel
theorem dX8_rests_55 : decode cX8_rests 55 = .ok (.aload_n 0, 1) := by decide +kernel
theorem dX8_rests_56 : decode cX8_rests 56 = .ok (.getfield 50, 3) := by decide +kernel
theorem dX8_rests_59 : decode cX8_rests 59 = .ok (.iload_n 1, 1) := by decide +kernel
theorem dX8_rests_60 : decode cX8_rests 60 = .ok (.baload, 1) := by decide +kernel
theorem dX8_rests_61 : decode cX8_rests 61 = .ok (.ifCond .eq 34, 3) := by decide +kernel
theorem dX8_rests_64 : decode cX8_rests 64 = .ok (.aload_n 0, 1) := by decide +kernel
theorem dX8_rests_65 : decode cX8_rests 65 = .ok (.iload_n 1, 1) := by decide +kernel
theorem dX8_rests_66 : decode cX8_rests 66 = .ok (.iconst (-1), 1) := by decide +kernel
theorem dX8_rests_67 : decode cX8_rests 67 = .ok (.invokevirtual 126, 3) := by decide +kernel
theorem dX8_rests_70 : decode cX8_rests 70 = .ok (.iconst (-1), 1) := by decide +kernel
theorem dX8_rests_71 : decode cX8_rests 71 = .ok (.if_icmp .eq 24, 3) := by decide +kernel
theorem dX8_rests_74 : decode cX8_rests 74 = .ok (.aload_n 0, 1) := by decide +kernel
theorem dX8_rests_75 : decode cX8_rests 75 = .ok (.getfield 50, 3) := by decide +kernel
theorem dX8_rests_78 : decode cX8_rests 78 = .ok (.iload_n 1, 1) := by decide +kernel
theorem dX8_rests_79 : decode cX8_rests 79 = .ok (.iconst 0, 1) := by decide +kernel
theorem dX8_rests_80 : decode cX8_rests 80 = .ok (.bastore, 1) := by decide +kernel
theorem dX8_rests_81 : decode cX8_rests 81 = .ok (.aload_n 0, 1) := by decide +kernel
theorem dX8_rests_82 : decode cX8_rests 82 = .ok (.iload_n 1, 1) := by decide +kernel
theorem dX8_rests_83 : decode cX8_rests 83 = .ok (.aload_n 0, 1) := by decide +kernel
theorem dX8_rests_84 : decode cX8_rests 84 = .ok (.iload_n 1, 1) := by decide +kernel
theorem dX8_rests_85 : decode cX8_rests 85 = .ok (.iconst (-1), 1) := by decide +kernel
theorem dX8_rests_86 : decode cX8_rests 86 = .ok (.invokevirtual 126, 3) := by decide +kernel
theorem dX8_rests_89 : decode cX8_rests 89 = .ok (.invokevirtual 149, 3) := by decide +kernel
theorem dX8_rests_92 : decode cX8_rests 92 = .ok (.goto 18, 3) := by decide +kernel
theorem dX8_rests_95 : decode cX8_rests 95 = .ok (.aload_n 0, 1) := by decide +kernel
theorem dX8_rests_96 : decode cX8_rests 96 = .ok (.getfield 50, 3) := by decide +kernel
theorem dX8_rests_99 : decode cX8_rests 99 = .ok (.iload_n 1, 1) := by decide +kernel
theorem dX8_rests_100 : decode cX8_rests 100 = .ok (.iconst 0, 1) := by decide +kernel
theorem dX8_rests_101 : decode cX8_rests 101 = .ok (.bastore, 1) := by decide +kernel
theorem dX8_rests_102 : decode cX8_rests 102 = .ok (.aload_n 0, 1) := by decide +kernel
theorem dX8_rests_103 : decode cX8_rests 103 = .ok (.getfield 9, 3) := by decide +kernel
theorem dX8_rests_106 : decode cX8_rests 106 = .ok (.iload_n 1, 1) := by decide +kernel
theorem dX8_rests_107 : decode cX8_rests 107 = .ok (.bipush 10, 2) := by decide +kernel
theorem dX8_rests_109 : decode cX8_rests 109 = .ok (.iastore, 1) := by decide +kernel
theorem dX8_rests_110 : decode cX8_rests 110 = .ok (.return_, 1) := by decide +kernel
theorem dX8_how_0 : decode cX8_how 0 = .ok (.aload_n 0, 1) := by decide +kernel
theorem dX8_how_1 : decode cX8_how 1 = .ok (.getfield 9, 3) := by decide +kernel
theorem dX8_how_4 : decode cX8_how 4 = .ok (.iload_n 1, 1) := by decide +kernel
theorem dX8_how_5 : decode cX8_how 5 = .ok (.iaload, 1) := by decide +kernel
theorem dX8_how_6 : decode cX8_how 6 = .ok (.bipush 12, 2) := by decide +kernel
theorem dX8_how_8 : decode cX8_how 8 = .ok (.if_icmp .eq 20, 3) := by decide +kernel
theorem dX8_how_11 : decode cX8_how 11 = .ok (.aload_n 0, 1) := by decide +kernel
theorem dX8_how_12 : decode cX8_how 12 = .ok (.getfield 9, 3) := by decide +kernel
theorem dX8_how_15 : decode cX8_how 15 = .ok (.iload_n 1, 1) := by decide +kernel
theorem dX8_how_16 : decode cX8_how 16 = .ok (.iaload, 1) := by decide +kernel
theorem dX8_how_17 : decode cX8_how 17 = .ok (.bipush 10, 2) := by decide +kernel
theorem dX8_how_19 : decode cX8_how 19 = .ok (.if_icmp .ne 7, 3) := by decide +kernel
theorem dX8_how_22 : decode cX8_how 22 = .ok (.iconst 1, 1) := by decide +kernel
theorem dX8_how_23 : decode cX8_how 23 = .ok (.goto 4, 3) := by decide +kernel
theorem dX8_how_26 : decode cX8_how 26 = .ok (.iconst 0, 1) := by decide +kernel
theorem dX8_how_27 : decode cX8_how 27 = .ok (.ireturn, 1) := by decide +kernel
theorem dX8_how_28 : decode cX8_how 28 = .ok (.aload_n 0, 1) := by decide +kernel
theorem dX8_how_29 : decode cX8_how 29 = .ok (.getfield 35, 3) := by decide +kernel
theorem dX8_how_32 : decode cX8_how 32 = .ok (.iload_n 1, 1) := by decide +kernel
theorem dX8_how_33 : decode cX8_how 33 = .ok (.iaload, 1) := by decide +kernel
theorem dX8_how_34 : decode cX8_how 34 = .ok (.iconst 3, 1) := by decide +kernel
theorem dX8_how_35 : decode cX8_how 35 = .ok (.if_icmp .ne 7, 3) := by decide +kernel
theorem dX8_how_38 : decode cX8_how 38 = .ok (.iconst 2, 1) := by decide +kernel
theorem dX8_how_39 : decode cX8_how 39 = .ok (.goto 17, 3) := by decide +kernel
theorem dX8_how_42 : decode cX8_how 42 = .ok (.aload_n 0, 1) := by decide +kernel
theorem dX8_how_43 : decode cX8_how 43 = .ok (.getfield 65, 3) := by decide +kernel
theorem dX8_how_46 : decode cX8_how 46 = .ok (.iload_n 1, 1) := by decide +kernel
theorem dX8_how_47 : decode cX8_how 47 = .ok (.baload, 1) := by decide +kernel
theorem dX8_how_48 : decode cX8_how 48 = .ok (.ifCond .eq 7, 3) := by decide +kernel
theorem dX8_how_51 : decode cX8_how 51 = .ok (.iconst 3, 1) := by decide +kernel
theorem dX8_how_52 : decode cX8_how 52 = .ok (.goto 4, 3) := by decide +kernel
theorem dX8_how_55 : decode cX8_how 55 = .ok (.iconst 5, 1) := by decide +kernel
theorem dX8_how_56 : decode cX8_how 56 = .ok (.ireturn, 1) := by decide +kernel
theorem dX8_step_0 : decode cX8_step 0 = .ok (.aload_n 0, 1) := by decide +kernel
theorem dX8_step_1 : decode cX8_step 1 = .ok (.iload_n 1, 1) := by decide +kernel
theorem dX8_step_2 : decode cX8_step 2 = .ok (.invokevirtual 114, 3) := by decide +kernel
theorem dX8_step_5 : decode cX8_step 5 = .ok (.ifCond .eq 12, 3) := by decide +kernel
theorem dX8_step_8 : decode cX8_step 8 = .ok (.aload_n 0, 1) := by decide +kernel
theorem dX8_step_9 : decode cX8_step 9 = .ok (.getfield 9, 3) := by decide +kernel
theorem dX8_step_12 : decode cX8_step 12 = .ok (.iload_n 1, 1) := by decide +kernel
theorem dX8_step_13 : decode cX8_step 13 = .ok (.iaload, 1) := by decide +kernel
theorem dX8_step_14 : decode cX8_step 14 = .ok (.ifCond .ne 5, 3) := by decide +kernel
theorem dX8_step_17 : decode cX8_step 17 = .ok (.iconst (-1), 1) := by decide +kernel
theorem dX8_step_18 : decode cX8_step 18 = .ok (.ireturn, 1) := by decide +kernel
theorem dX8_step_19 : decode cX8_step 19 = .ok (.aload_n 0, 1) := by decide +kernel
theorem dX8_step_20 : decode cX8_step 20 = .ok (.getfield 9, 3) := by decide +kernel
theorem dX8_step_23 : decode cX8_step 23 = .ok (.iload_n 1, 1) := by decide +kernel
theorem dX8_step_24 : decode cX8_step 24 = .ok (.iaload, 1) := by decide +kernel
theorem dX8_step_25 : decode cX8_step 25 = .ok (.iconst 1, 1) := by decide +kernel
theorem dX8_step_26 : decode cX8_step 26 = .ok (.if_icmp .ne 5, 3) := by decide +kernel
theorem dX8_step_29 : decode cX8_step 29 = .ok (.iconst 4, 1) := by decide +kernel
theorem dX8_step_30 : decode cX8_step 30 = .ok (.ireturn, 1) := by decide +kernel
theorem dX8_step_31 : decode cX8_step 31 = .ok (.aload_n 0, 1) := by decide +kernel
theorem dX8_step_32 : decode cX8_step 32 = .ok (.getfield 9, 3) := by decide +kernel
theorem dX8_step_35 : decode cX8_step 35 = .ok (.iload_n 1, 1) := by decide +kernel
theorem dX8_step_36 : decode cX8_step 36 = .ok (.iaload, 1) := by decide +kernel
theorem dX8_step_37 : decode cX8_step 37 = .ok (.bipush 12, 2) := by decide +kernel
theorem dX8_step_39 : decode cX8_step 39 = .ok (.if_icmp .eq 8, 3) := by decide +kernel
theorem dX8_step_42 : decode cX8_step 42 = .ok (.aload_n 0, 1) := by decide +kernel
theorem dX8_step_43 : decode cX8_step 43 = .ok (.iload_n 1, 1) := by decide +kernel
theorem dX8_step_44 : decode cX8_step 44 = .ok (.invokevirtual 209, 3) := by decide +kernel
theorem dX8_step_47 : decode cX8_step 47 = .ok (.aload_n 0, 1) := by decide +kernel
theorem dX8_step_48 : decode cX8_step 48 = .ok (.iload_n 1, 1) := by decide +kernel
theorem dX8_step_49 : decode cX8_step 49 = .ok (.invokevirtual 212, 3) := by decide +kernel
theorem dX8_step_52 : decode cX8_step 52 = .ok (.ireturn, 1) := by decide +kernel
theorem dX8_cancel_0 : decode cX8_cancel 0 = .ok (.aload_n 0, 1) := by decide +kernel
theorem dX8_cancel_1 : decode cX8_cancel 1 = .ok (.iload_n 1, 1) := by decide +kernel
theorem dX8_cancel_2 : decode cX8_cancel 2 = .ok (.invokevirtual 215, 3) := by decide +kernel
theorem dX8_cancel_5 : decode cX8_cancel 5 = .ok (.ifCond .eq 13, 3) := by decide +kernel
theorem dX8_cancel_8 : decode cX8_cancel 8 = .ok (.aload_n 0, 1) := by decide +kernel
theorem dX8_cancel_9 : decode cX8_cancel 9 = .ok (.getfield 35, 3) := by decide +kernel
theorem dX8_cancel_12 : decode cX8_cancel 12 = .ok (.iload_n 1, 1) := by decide +kernel
theorem dX8_cancel_13 : decode cX8_cancel 13 = .ok (.iaload, 1) := by decide +kernel
theorem dX8_cancel_14 : decode cX8_cancel 14 = .ok (.iconst 1, 1) := by decide +kernel
theorem dX8_cancel_15 : decode cX8_cancel 15 = .ok (.if_icmp .eq 5, 3) := by decide +kernel
theorem dX8_cancel_18 : decode cX8_cancel 18 = .ok (.iconst 0, 1) := by decide +kernel
theorem dX8_cancel_19 : decode cX8_cancel 19 = .ok (.ireturn, 1) := by decide +kernel
theorem dX8_cancel_20 : decode cX8_cancel 20 = .ok (.aload_n 0, 1) := by decide +kernel
theorem dX8_cancel_21 : decode cX8_cancel 21 = .ok (.iload_n 1, 1) := by decide +kernel
theorem dX8_cancel_22 : decode cX8_cancel 22 = .ok (.invokevirtual 179, 3) := by decide +kernel
theorem dX8_cancel_25 : decode cX8_cancel 25 = .ok (.aload_n 0, 1) := by decide +kernel
theorem dX8_cancel_26 : decode cX8_cancel 26 = .ok (.getfield 9, 3) := by decide +kernel
theorem dX8_cancel_29 : decode cX8_cancel 29 = .ok (.iload_n 1, 1) := by decide +kernel
theorem dX8_cancel_30 : decode cX8_cancel 30 = .ok (.iaload, 1) := by decide +kernel
theorem dX8_cancel_31 : decode cX8_cancel 31 = .ok (.istore_n 2, 1) := by decide +kernel
theorem dX8_cancel_32 : decode cX8_cancel 32 = .ok (.iload_n 2, 1) := by decide +kernel
theorem dX8_cancel_33 : decode cX8_cancel 33 = .ok (.iconst 2, 1) := by decide +kernel
theorem dX8_cancel_34 : decode cX8_cancel 34 = .ok (.if_icmp .eq 25, 3) := by decide +kernel
theorem dX8_cancel_37 : decode cX8_cancel 37 = .ok (.iload_n 2, 1) := by decide +kernel
theorem dX8_cancel_38 : decode cX8_cancel 38 = .ok (.iconst 3, 1) := by decide +kernel
theorem dX8_cancel_39 : decode cX8_cancel 39 = .ok (.if_icmp .eq 20, 3) := by decide +kernel
theorem dX8_cancel_42 : decode cX8_cancel 42 = .ok (.iload_n 2, 1) := by decide +kernel
theorem dX8_cancel_43 : decode cX8_cancel 43 = .ok (.iconst 4, 1) := by decide +kernel
theorem dX8_cancel_44 : decode cX8_cancel 44 = .ok (.if_icmp .eq 15, 3) := by decide +kernel
theorem dX8_cancel_47 : decode cX8_cancel 47 = .ok (.iload_n 2, 1) := by decide +kernel
theorem dX8_cancel_48 : decode cX8_cancel 48 = .ok (.bipush 9, 2) := by decide +kernel
theorem dX8_cancel_50 : decode cX8_cancel 50 = .ok (.if_icmp .eq 9, 3) := by decide +kernel
theorem dX8_cancel_53 : decode cX8_cancel 53 = .ok (.iload_n 2, 1) := by decide +kernel
theorem dX8_cancel_54 : decode cX8_cancel 54 = .ok (.bipush 10, 2) := by decide +kernel
theorem dX8_cancel_56 : decode cX8_cancel 56 = .ok (.if_icmp .ne 8, 3) := by decide +kernel
theorem dX8_cancel_59 : decode cX8_cancel 59 = .ok (.aload_n 0, 1) := by decide +kernel
theorem dX8_cancel_60 : decode cX8_cancel 60 = .ok (.iload_n 1, 1) := by decide +kernel
theorem dX8_cancel_61 : decode cX8_cancel 61 = .ok (.invokevirtual 163, 3) := by decide +kernel
theorem dX8_cancel_64 : decode cX8_cancel 64 = .ok (.iconst 1, 1) := by decide +kernel
theorem dX8_cancel_65 : decode cX8_cancel 65 = .ok (.ireturn, 1) := by decide +kernel
theorem dX8_finish_0 : decode cX8_finish 0 = .ok (.aload_n 0, 1) := by decide +kernel
theorem dX8_finish_1 : decode cX8_finish 1 = .ok (.iload_n 1, 1) := by decide +kernel
theorem dX8_finish_2 : decode cX8_finish 2 = .ok (.bipush 12, 2) := by decide +kernel
theorem dX8_finish_4 : decode cX8_finish 4 = .ok (.invokevirtual 118, 3) := by decide +kernel
theorem dX8_finish_7 : decode cX8_finish 7 = .ok (.ifCond .ne 5, 3) := by decide +kernel
theorem dX8_finish_10 : decode cX8_finish 10 = .ok (.iconst 0, 1) := by decide +kernel
theorem dX8_finish_11 : decode cX8_finish 11 = .ok (.ireturn, 1) := by decide +kernel
theorem dX8_finish_12 : decode cX8_finish 12 = .ok (.aload_n 0, 1) := by decide +kernel
theorem dX8_finish_13 : decode cX8_finish 13 = .ok (.iload_n 1, 1) := by decide +kernel
theorem dX8_finish_14 : decode cX8_finish 14 = .ok (.invokevirtual 122, 3) := by decide +kernel
theorem dX8_finish_17 : decode cX8_finish 17 = .ok (.aload_n 0, 1) := by decide +kernel
theorem dX8_finish_18 : decode cX8_finish 18 = .ok (.getfield 35, 3) := by decide +kernel
theorem dX8_finish_21 : decode cX8_finish 21 = .ok (.iload_n 1, 1) := by decide +kernel
theorem dX8_finish_22 : decode cX8_finish 22 = .ok (.iconst 0, 1) := by decide +kernel
theorem dX8_finish_23 : decode cX8_finish 23 = .ok (.iastore, 1) := by decide +kernel
theorem dX8_finish_24 : decode cX8_finish 24 = .ok (.iconst 1, 1) := by decide +kernel
theorem dX8_finish_25 : decode cX8_finish 25 = .ok (.ireturn, 1) := by decide +kernel
theorem dX8_tick_0 : decode cX8_tick 0 = .ok (.aload_n 0, 1) := by decide +kernel
theorem dX8_tick_1 : decode cX8_tick 1 = .ok (.dup, 1) := by decide +kernel
theorem dX8_tick_2 : decode cX8_tick 2 = .ok (.getfield 130, 3) := by decide +kernel
theorem dX8_tick_5 : decode cX8_tick 5 = .ok (.iconst 1, 1) := by decide +kernel
theorem dX8_tick_6 : decode cX8_tick 6 = .ok (.iadd, 1) := by decide +kernel
theorem dX8_tick_7 : decode cX8_tick 7 = .ok (.putfield 130, 3) := by decide +kernel
theorem dX8_tick_10 : decode cX8_tick 10 = .ok (.aload_n 0, 1) := by decide +kernel
theorem dX8_tick_11 : decode cX8_tick 11 = .ok (.getfield 130, 3) := by decide +kernel
theorem dX8_tick_14 : decode cX8_tick 14 = .ok (.ireturn, 1) := by decide +kernel
theorem dX8_run_0 : decode cX8_run 0 = .ok (.iload_n 1, 1) := by decide +kernel
theorem dX8_run_1 : decode cX8_run 1 = .ok (.ifCond .lt 10, 3) := by decide +kernel
theorem dX8_run_4 : decode cX8_run 4 = .ok (.iload_n 1, 1) := by decide +kernel
theorem dX8_run_5 : decode cX8_run 5 = .ok (.sipush 5000, 3) := by decide +kernel
theorem dX8_run_8 : decode cX8_run 8 = .ok (.if_icmp .le 5, 3) := by decide +kernel
theorem dX8_run_11 : decode cX8_run 11 = .ok (.iconst (-1), 1) := by decide +kernel
theorem dX8_run_12 : decode cX8_run 12 = .ok (.ireturn, 1) := by decide +kernel
theorem dX8_run_13 : decode cX8_run 13 = .ok (.iload_n 2, 1) := by decide +kernel
theorem dX8_run_14 : decode cX8_run 14 = .ok (.istore_n 3, 1) := by decide +kernel
theorem dX8_run_15 : decode cX8_run 15 = .ok (.aload_n 0, 1) := by decide +kernel
theorem dX8_run_16 : decode cX8_run 16 = .ok (.getfield 173, 3) := by decide +kernel
theorem dX8_run_19 : decode cX8_run 19 = .ok (.istore 4, 2) := by decide +kernel
theorem dX8_run_21 : decode cX8_run 21 = .ok (.iconst 0, 1) := by decide +kernel
theorem dX8_run_22 : decode cX8_run 22 = .ok (.istore 5, 2) := by decide +kernel
theorem dX8_run_24 : decode cX8_run 24 = .ok (.iload 5, 2) := by decide +kernel
theorem dX8_run_26 : decode cX8_run 26 = .ok (.iload_n 1, 1) := by decide +kernel
theorem dX8_run_27 : decode cX8_run 27 = .ok (.if_icmp .ge 44, 3) := by decide +kernel
theorem dX8_run_30 : decode cX8_run 30 = .ok (.iload_n 3, 1) := by decide +kernel
theorem dX8_run_31 : decode cX8_run 31 = .ok (.ldc 218, 2) := by decide +kernel
theorem dX8_run_33 : decode cX8_run 33 = .ok (.imul, 1) := by decide +kernel
theorem dX8_run_34 : decode cX8_run 34 = .ok (.sipush 12345, 3) := by decide +kernel
theorem dX8_run_37 : decode cX8_run 37 = .ok (.iadd, 1) := by decide +kernel
theorem dX8_run_38 : decode cX8_run 38 = .ok (.istore_n 3, 1) := by decide +kernel
theorem dX8_run_39 : decode cX8_run 39 = .ok (.iload_n 3, 1) := by decide +kernel
theorem dX8_run_40 : decode cX8_run 40 = .ok (.bipush 16, 2) := by decide +kernel
theorem dX8_run_42 : decode cX8_run 42 = .ok (.iushr, 1) := by decide +kernel
theorem dX8_run_43 : decode cX8_run 43 = .ok (.aload_n 0, 1) := by decide +kernel
theorem dX8_run_44 : decode cX8_run 44 = .ok (.getfield 110, 3) := by decide +kernel
theorem dX8_run_47 : decode cX8_run 47 = .ok (.irem, 1) := by decide +kernel
theorem dX8_run_48 : decode cX8_run 48 = .ok (.istore 6, 2) := by decide +kernel
theorem dX8_run_50 : decode cX8_run 50 = .ok (.aload_n 0, 1) := by decide +kernel
theorem dX8_run_51 : decode cX8_run 51 = .ok (.iload 6, 2) := by decide +kernel
theorem dX8_run_53 : decode cX8_run 53 = .ok (.invokevirtual 215, 3) := by decide +kernel
theorem dX8_run_56 : decode cX8_run 56 = .ok (.ifCond .eq 9, 3) := by decide +kernel
theorem dX8_run_59 : decode cX8_run 59 = .ok (.aload_n 0, 1) := by decide +kernel
theorem dX8_run_60 : decode cX8_run 60 = .ok (.iload 6, 2) := by decide +kernel
theorem dX8_run_62 : decode cX8_run 62 = .ok (.invokevirtual 209, 3) := by decide +kernel
theorem dX8_run_65 : decode cX8_run 65 = .ok (.iinc 5 1, 3) := by decide +kernel
theorem dX8_run_68 : decode cX8_run 68 = .ok (.goto (-44), 3) := by decide +kernel
theorem dX8_run_71 : decode cX8_run 71 = .ok (.aload_n 0, 1) := by decide +kernel
theorem dX8_run_72 : decode cX8_run 72 = .ok (.getfield 173, 3) := by decide +kernel
theorem dX8_run_75 : decode cX8_run 75 = .ok (.iload 4, 2) := by decide +kernel
theorem dX8_run_77 : decode cX8_run 77 = .ok (.isub, 1) := by decide +kernel
theorem dX8_run_78 : decode cX8_run 78 = .ok (.ireturn, 1) := by decide +kernel
theorem dX8_phase_0 : decode cX8_phase 0 = .ok (.aload_n 0, 1) := by decide +kernel
theorem dX8_phase_1 : decode cX8_phase 1 = .ok (.iload_n 1, 1) := by decide +kernel
theorem dX8_phase_2 : decode cX8_phase 2 = .ok (.invokevirtual 114, 3) := by decide +kernel
theorem dX8_phase_5 : decode cX8_phase 5 = .ok (.ifCond .eq 12, 3) := by decide +kernel
theorem dX8_phase_8 : decode cX8_phase 8 = .ok (.aload_n 0, 1) := by decide +kernel
theorem dX8_phase_9 : decode cX8_phase 9 = .ok (.getfield 9, 3) := by decide +kernel
theorem dX8_phase_12 : decode cX8_phase 12 = .ok (.iload_n 1, 1) := by decide +kernel
theorem dX8_phase_13 : decode cX8_phase 13 = .ok (.iaload, 1) := by decide +kernel
theorem dX8_phase_14 : decode cX8_phase 14 = .ok (.goto 4, 3) := by decide +kernel
theorem dX8_phase_17 : decode cX8_phase 17 = .ok (.iconst (-1), 1) := by decide +kernel
theorem dX8_phase_18 : decode cX8_phase 18 = .ok (.ireturn, 1) := by decide +kernel
theorem dX8_word_0 : decode cX8_word 0 = .ok (.aload_n 0, 1) := by decide +kernel
theorem dX8_word_1 : decode cX8_word 1 = .ok (.iload_n 1, 1) := by decide +kernel
theorem dX8_word_2 : decode cX8_word 2 = .ok (.invokevirtual 114, 3) := by decide +kernel
theorem dX8_word_5 : decode cX8_word 5 = .ok (.ifCond .ne 5, 3) := by decide +kernel
theorem dX8_word_8 : decode cX8_word 8 = .ok (.iconst (-1), 1) := by decide +kernel
theorem dX8_word_9 : decode cX8_word 9 = .ok (.ireturn, 1) := by decide +kernel
theorem dX8_word_10 : decode cX8_word 10 = .ok (.iload_n 2, 1) := by decide +kernel
theorem dX8_word_11 : decode cX8_word 11 = .ok (.tableswitch 60 0 2 #[25, 32, 39], 25) := by decide +kernel
theorem dX8_word_36 : decode cX8_word 36 = .ok (.aload_n 0, 1) := by decide +kernel
theorem dX8_word_37 : decode cX8_word 37 = .ok (.getfield 35, 3) := by decide +kernel
theorem dX8_word_40 : decode cX8_word 40 = .ok (.iload_n 1, 1) := by decide +kernel
theorem dX8_word_41 : decode cX8_word 41 = .ok (.iaload, 1) := by decide +kernel
theorem dX8_word_42 : decode cX8_word 42 = .ok (.ireturn, 1) := by decide +kernel
theorem dX8_word_43 : decode cX8_word 43 = .ok (.aload_n 0, 1) := by decide +kernel
theorem dX8_word_44 : decode cX8_word 44 = .ok (.getfield 38, 3) := by decide +kernel
theorem dX8_word_47 : decode cX8_word 47 = .ok (.iload_n 1, 1) := by decide +kernel
theorem dX8_word_48 : decode cX8_word 48 = .ok (.iaload, 1) := by decide +kernel
theorem dX8_word_49 : decode cX8_word 49 = .ok (.ireturn, 1) := by decide +kernel
theorem dX8_word_50 : decode cX8_word 50 = .ok (.aload_n 0, 1) := by decide +kernel
theorem dX8_word_51 : decode cX8_word 51 = .ok (.getfield 35, 3) := by decide +kernel
theorem dX8_word_54 : decode cX8_word 54 = .ok (.iload_n 1, 1) := by decide +kernel
theorem dX8_word_55 : decode cX8_word 55 = .ok (.iaload, 1) := by decide +kernel
theorem dX8_word_56 : decode cX8_word 56 = .ok (.iconst 2, 1) := by decide +kernel
theorem dX8_word_57 : decode cX8_word 57 = .ok (.if_icmp .ne 12, 3) := by decide +kernel
theorem dX8_word_60 : decode cX8_word 60 = .ok (.aload_n 0, 1) := by decide +kernel
theorem dX8_word_61 : decode cX8_word 61 = .ok (.getfield 41, 3) := by decide +kernel
theorem dX8_word_64 : decode cX8_word 64 = .ok (.iload_n 1, 1) := by decide +kernel
theorem dX8_word_65 : decode cX8_word 65 = .ok (.iaload, 1) := by decide +kernel
theorem dX8_word_66 : decode cX8_word 66 = .ok (.goto 4, 3) := by decide +kernel
theorem dX8_word_69 : decode cX8_word 69 = .ok (.iconst (-1), 1) := by decide +kernel
theorem dX8_word_70 : decode cX8_word 70 = .ok (.ireturn, 1) := by decide +kernel
theorem dX8_word_71 : decode cX8_word 71 = .ok (.iconst (-1), 1) := by decide +kernel
theorem dX8_word_72 : decode cX8_word 72 = .ok (.ireturn, 1) := by decide +kernel
theorem dX8_outcome_0 : decode cX8_outcome 0 = .ok (.aload_n 0, 1) := by decide +kernel
theorem dX8_outcome_1 : decode cX8_outcome 1 = .ok (.iload_n 1, 1) := by decide +kernel
theorem dX8_outcome_2 : decode cX8_outcome 2 = .ok (.invokevirtual 114, 3) := by decide +kernel
theorem dX8_outcome_5 : decode cX8_outcome 5 = .ok (.ifCond .eq 12, 3) := by decide +kernel
theorem dX8_outcome_8 : decode cX8_outcome 8 = .ok (.aload_n 0, 1) := by decide +kernel
theorem dX8_outcome_9 : decode cX8_outcome 9 = .ok (.getfield 68, 3) := by decide +kernel
theorem dX8_outcome_12 : decode cX8_outcome 12 = .ok (.iload_n 1, 1) := by decide +kernel
theorem dX8_outcome_13 : decode cX8_outcome 13 = .ok (.baload, 1) := by decide +kernel
theorem dX8_outcome_14 : decode cX8_outcome 14 = .ok (.ifCond .ne 5, 3) := by decide +kernel
theorem dX8_outcome_17 : decode cX8_outcome 17 = .ok (.iconst (-1), 1) := by decide +kernel
theorem dX8_outcome_18 : decode cX8_outcome 18 = .ok (.ireturn, 1) := by decide +kernel
theorem dX8_outcome_19 : decode cX8_outcome 19 = .ok (.iload_n 2, 1) := by decide +kernel
theorem dX8_outcome_20 : decode cX8_outcome 20 = .ok (.tableswitch 60 0 3 #[32, 39, 46, 53], 32) := by decide +kernel
theorem dX8_outcome_52 : decode cX8_outcome 52 = .ok (.aload_n 0, 1) := by decide +kernel
theorem dX8_outcome_53 : decode cX8_outcome 53 = .ok (.getfield 71, 3) := by decide +kernel
theorem dX8_outcome_56 : decode cX8_outcome 56 = .ok (.iload_n 1, 1) := by decide +kernel
theorem dX8_outcome_57 : decode cX8_outcome 57 = .ok (.iaload, 1) := by decide +kernel
theorem dX8_outcome_58 : decode cX8_outcome 58 = .ok (.ireturn, 1) := by decide +kernel
theorem dX8_outcome_59 : decode cX8_outcome 59 = .ok (.aload_n 0, 1) := by decide +kernel
theorem dX8_outcome_60 : decode cX8_outcome 60 = .ok (.getfield 74, 3) := by decide +kernel
theorem dX8_outcome_63 : decode cX8_outcome 63 = .ok (.iload_n 1, 1) := by decide +kernel
theorem dX8_outcome_64 : decode cX8_outcome 64 = .ok (.iaload, 1) := by decide +kernel
theorem dX8_outcome_65 : decode cX8_outcome 65 = .ok (.ireturn, 1) := by decide +kernel
theorem dX8_outcome_66 : decode cX8_outcome 66 = .ok (.aload_n 0, 1) := by decide +kernel
theorem dX8_outcome_67 : decode cX8_outcome 67 = .ok (.getfield 77, 3) := by decide +kernel
theorem dX8_outcome_70 : decode cX8_outcome 70 = .ok (.iload_n 1, 1) := by decide +kernel
theorem dX8_outcome_71 : decode cX8_outcome 71 = .ok (.iaload, 1) := by decide +kernel
theorem dX8_outcome_72 : decode cX8_outcome 72 = .ok (.ireturn, 1) := by decide +kernel
theorem dX8_outcome_73 : decode cX8_outcome 73 = .ok (.aload_n 0, 1) := by decide +kernel
theorem dX8_outcome_74 : decode cX8_outcome 74 = .ok (.getfield 80, 3) := by decide +kernel
theorem dX8_outcome_77 : decode cX8_outcome 77 = .ok (.iload_n 1, 1) := by decide +kernel
theorem dX8_outcome_78 : decode cX8_outcome 78 = .ok (.iaload, 1) := by decide +kernel
theorem dX8_outcome_79 : decode cX8_outcome 79 = .ok (.ireturn, 1) := by decide +kernel
theorem dX8_outcome_80 : decode cX8_outcome 80 = .ok (.iconst (-1), 1) := by decide +kernel
theorem dX8_outcome_81 : decode cX8_outcome 81 = .ok (.ireturn, 1) := by decide +kernel
theorem dX8_entry_0 : decode cX8_entry 0 = .ok (.iload_n 2, 1) := by decide +kernel
theorem dX8_entry_1 : decode cX8_entry 1 = .ok (.ifCond .ge 5, 3) := by decide +kernel
theorem dX8_entry_4 : decode cX8_entry 4 = .ok (.iconst (-1), 1) := by decide +kernel
theorem dX8_entry_5 : decode cX8_entry 5 = .ok (.ireturn, 1) := by decide +kernel
theorem dX8_entry_6 : decode cX8_entry 6 = .ok (.iload_n 2, 1) := by decide +kernel
theorem dX8_entry_7 : decode cX8_entry 7 = .ok (.istore 4, 2) := by decide +kernel
theorem dX8_entry_9 : decode cX8_entry 9 = .ok (.iconst 0, 1) := by decide +kernel
theorem dX8_entry_10 : decode cX8_entry 10 = .ok (.istore 5, 2) := by decide +kernel
theorem dX8_entry_12 : decode cX8_entry 12 = .ok (.iload 5, 2) := by decide +kernel
theorem dX8_entry_14 : decode cX8_entry 14 = .ok (.aload_n 0, 1) := by decide +kernel
theorem dX8_entry_15 : decode cX8_entry 15 = .ok (.getfield 136, 3) := by decide +kernel
theorem dX8_entry_18 : decode cX8_entry 18 = .ok (.if_icmp .ge 39, 3) := by decide +kernel
theorem dX8_entry_21 : decode cX8_entry 21 = .ok (.aload_n 0, 1) := by decide +kernel
theorem dX8_entry_22 : decode cX8_entry 22 = .ok (.getfield 98, 3) := by decide +kernel
theorem dX8_entry_25 : decode cX8_entry 25 = .ok (.iload 5, 2) := by decide +kernel
theorem dX8_entry_27 : decode cX8_entry 27 = .ok (.iaload, 1) := by decide +kernel
theorem dX8_entry_28 : decode cX8_entry 28 = .ok (.iload_n 1, 1) := by decide +kernel
theorem dX8_entry_29 : decode cX8_entry 29 = .ok (.if_icmp .ne 8, 3) := by decide +kernel
theorem dX8_entry_32 : decode cX8_entry 32 = .ok (.iload 4, 2) := by decide +kernel
theorem dX8_entry_34 : decode cX8_entry 34 = .ok (.ifCond .le 23, 3) := by decide +kernel
theorem dX8_entry_37 : decode cX8_entry 37 = .ok (.aload_n 0, 1) := by decide +kernel
theorem dX8_entry_38 : decode cX8_entry 38 = .ok (.getfield 98, 3) := by decide +kernel
theorem dX8_entry_41 : decode cX8_entry 41 = .ok (.iload 5, 2) := by decide +kernel
theorem dX8_entry_43 : decode cX8_entry 43 = .ok (.iaload, 1) := by decide +kernel
theorem dX8_entry_44 : decode cX8_entry 44 = .ok (.iload_n 1, 1) := by decide +kernel
theorem dX8_entry_45 : decode cX8_entry 45 = .ok (.if_icmp .ne 6, 3) := by decide +kernel
theorem dX8_entry_48 : decode cX8_entry 48 = .ok (.iinc 4 (-1), 3) := by decide +kernel
theorem dX8_entry_51 : decode cX8_entry 51 = .ok (.iinc 5 1, 3) := by decide +kernel
theorem dX8_entry_54 : decode cX8_entry 54 = .ok (.goto (-42), 3) := by decide +kernel
theorem dX8_entry_57 : decode cX8_entry 57 = .ok (.iload 5, 2) := by decide +kernel
theorem dX8_entry_59 : decode cX8_entry 59 = .ok (.aload_n 0, 1) := by decide +kernel
theorem dX8_entry_60 : decode cX8_entry 60 = .ok (.getfield 136, 3) := by decide +kernel
theorem dX8_entry_63 : decode cX8_entry 63 = .ok (.if_icmp .ne 5, 3) := by decide +kernel
theorem dX8_entry_66 : decode cX8_entry 66 = .ok (.iconst (-1), 1) := by decide +kernel
theorem dX8_entry_67 : decode cX8_entry 67 = .ok (.ireturn, 1) := by decide +kernel
theorem dX8_entry_68 : decode cX8_entry 68 = .ok (.iload_n 3, 1) := by decide +kernel
theorem dX8_entry_69 : decode cX8_entry 69 = .ok (.tableswitch 75 0 4 #[35, 43, 51, 59, 67], 35) := by decide +kernel
theorem dX8_entry_104 : decode cX8_entry 104 = .ok (.aload_n 0, 1) := by decide +kernel
theorem dX8_entry_105 : decode cX8_entry 105 = .ok (.getfield 83, 3) := by decide +kernel
theorem dX8_entry_108 : decode cX8_entry 108 = .ok (.iload 5, 2) := by decide +kernel
theorem dX8_entry_110 : decode cX8_entry 110 = .ok (.iaload, 1) := by decide +kernel
theorem dX8_entry_111 : decode cX8_entry 111 = .ok (.ireturn, 1) := by decide +kernel
theorem dX8_entry_112 : decode cX8_entry 112 = .ok (.aload_n 0, 1) := by decide +kernel
theorem dX8_entry_113 : decode cX8_entry 113 = .ok (.getfield 89, 3) := by decide +kernel
theorem dX8_entry_116 : decode cX8_entry 116 = .ok (.iload 5, 2) := by decide +kernel
theorem dX8_entry_118 : decode cX8_entry 118 = .ok (.iaload, 1) := by decide +kernel
theorem dX8_entry_119 : decode cX8_entry 119 = .ok (.ireturn, 1) := by decide +kernel
theorem dX8_entry_120 : decode cX8_entry 120 = .ok (.aload_n 0, 1) := by decide +kernel
theorem dX8_entry_121 : decode cX8_entry 121 = .ok (.getfield 92, 3) := by decide +kernel
theorem dX8_entry_124 : decode cX8_entry 124 = .ok (.iload 5, 2) := by decide +kernel
theorem dX8_entry_126 : decode cX8_entry 126 = .ok (.iaload, 1) := by decide +kernel
theorem dX8_entry_127 : decode cX8_entry 127 = .ok (.ireturn, 1) := by decide +kernel
theorem dX8_entry_128 : decode cX8_entry 128 = .ok (.aload_n 0, 1) := by decide +kernel
theorem dX8_entry_129 : decode cX8_entry 129 = .ok (.getfield 95, 3) := by decide +kernel
theorem dX8_entry_132 : decode cX8_entry 132 = .ok (.iload 5, 2) := by decide +kernel
theorem dX8_entry_134 : decode cX8_entry 134 = .ok (.iaload, 1) := by decide +kernel
theorem dX8_entry_135 : decode cX8_entry 135 = .ok (.ireturn, 1) := by decide +kernel
theorem dX8_entry_136 : decode cX8_entry 136 = .ok (.aload_n 0, 1) := by decide +kernel
theorem dX8_entry_137 : decode cX8_entry 137 = .ok (.getfield 86, 3) := by decide +kernel
theorem dX8_entry_140 : decode cX8_entry 140 = .ok (.iload 5, 2) := by decide +kernel
theorem dX8_entry_142 : decode cX8_entry 142 = .ok (.iaload, 1) := by decide +kernel
theorem dX8_entry_143 : decode cX8_entry 143 = .ok (.ireturn, 1) := by decide +kernel
theorem dX8_entry_144 : decode cX8_entry 144 = .ok (.iconst (-1), 1) := by decide +kernel
theorem dX8_entry_145 : decode cX8_entry 145 = .ok (.ireturn, 1) := by decide +kernel
theorem dX8_pair_0 : decode cX8_pair 0 = .ok (.iload_n 1, 1) := by decide +kernel
theorem dX8_pair_1 : decode cX8_pair 1 = .ok (.ifCond .lt 42, 3) := by decide +kernel
theorem dX8_pair_4 : decode cX8_pair 4 = .ok (.iload_n 1, 1) := by decide +kernel
theorem dX8_pair_5 : decode cX8_pair 5 = .ok (.aload_n 0, 1) := by decide +kernel
theorem dX8_pair_6 : decode cX8_pair 6 = .ok (.getfield 173, 3) := by decide +kernel
theorem dX8_pair_9 : decode cX8_pair 9 = .ok (.if_icmp .ge 34, 3) := by decide +kernel
theorem dX8_pair_12 : decode cX8_pair 12 = .ok (.iload_n 1, 1) := by decide +kernel
theorem dX8_pair_13 : decode cX8_pair 13 = .ok (.sipush 200, 3) := by decide +kernel
theorem dX8_pair_16 : decode cX8_pair 16 = .ok (.if_icmp .ge 27, 3) := by decide +kernel
theorem dX8_pair_19 : decode cX8_pair 19 = .ok (.iload_n 2, 1) := by decide +kernel
theorem dX8_pair_20 : decode cX8_pair 20 = .ok (.ifCond .lt 23, 3) := by decide +kernel
theorem dX8_pair_23 : decode cX8_pair 23 = .ok (.iload_n 2, 1) := by decide +kernel
theorem dX8_pair_24 : decode cX8_pair 24 = .ok (.bipush 8, 2) := by decide +kernel
theorem dX8_pair_26 : decode cX8_pair 26 = .ok (.if_icmp .ge 17, 3) := by decide +kernel
theorem dX8_pair_29 : decode cX8_pair 29 = .ok (.aload_n 0, 1) := by decide +kernel
theorem dX8_pair_30 : decode cX8_pair 30 = .ok (.getfield 101, 3) := by decide +kernel
theorem dX8_pair_33 : decode cX8_pair 33 = .ok (.bipush 8, 2) := by decide +kernel
theorem dX8_pair_35 : decode cX8_pair 35 = .ok (.iload_n 1, 1) := by decide +kernel
theorem dX8_pair_36 : decode cX8_pair 36 = .ok (.imul, 1) := by decide +kernel
theorem dX8_pair_37 : decode cX8_pair 37 = .ok (.iload_n 2, 1) := by decide +kernel
theorem dX8_pair_38 : decode cX8_pair 38 = .ok (.iadd, 1) := by decide +kernel
theorem dX8_pair_39 : decode cX8_pair 39 = .ok (.iaload, 1) := by decide +kernel
theorem dX8_pair_40 : decode cX8_pair 40 = .ok (.goto 4, 3) := by decide +kernel
theorem dX8_pair_43 : decode cX8_pair 43 = .ok (.iconst (-1), 1) := by decide +kernel
theorem dX8_pair_44 : decode cX8_pair 44 = .ok (.ireturn, 1) := by decide +kernel
theorem dX8_doubles_0 : decode cX8_doubles 0 = .ok (.iconst 0, 1) := by decide +kernel
theorem dX8_doubles_1 : decode cX8_doubles 1 = .ok (.istore_n 1, 1) := by decide +kernel
theorem dX8_doubles_2 : decode cX8_doubles 2 = .ok (.iconst 0, 1) := by decide +kernel
theorem dX8_doubles_3 : decode cX8_doubles 3 = .ok (.istore_n 2, 1) := by decide +kernel
theorem dX8_doubles_4 : decode cX8_doubles 4 = .ok (.iload_n 2, 1) := by decide +kernel
theorem dX8_doubles_5 : decode cX8_doubles 5 = .ok (.sipush 16016, 3) := by decide +kernel
theorem dX8_doubles_8 : decode cX8_doubles 8 = .ok (.if_icmp .ge 46, 3) := by decide +kernel
theorem dX8_doubles_11 : decode cX8_doubles 11 = .ok (.iload_n 1, 1) := by decide +kernel
theorem dX8_doubles_12 : decode cX8_doubles 12 = .ok (.aload_n 0, 1) := by decide +kernel
theorem dX8_doubles_13 : decode cX8_doubles 13 = .ok (.getfield 104, 3) := by decide +kernel
theorem dX8_doubles_16 : decode cX8_doubles 16 = .ok (.iload_n 2, 1) := by decide +kernel
theorem dX8_doubles_17 : decode cX8_doubles 17 = .ok (.iaload, 1) := by decide +kernel
theorem dX8_doubles_18 : decode cX8_doubles 18 = .ok (.iconst 1, 1) := by decide +kernel
theorem dX8_doubles_19 : decode cX8_doubles 19 = .ok (.if_icmp .gt 22, 3) := by decide +kernel
theorem dX8_doubles_22 : decode cX8_doubles 22 = .ok (.aload_n 0, 1) := by decide +kernel
theorem dX8_doubles_23 : decode cX8_doubles 23 = .ok (.getfield 104, 3) := by decide +kernel
theorem dX8_doubles_26 : decode cX8_doubles 26 = .ok (.iload_n 2, 1) := by decide +kernel
theorem dX8_doubles_27 : decode cX8_doubles 27 = .ok (.iaload, 1) := by decide +kernel
theorem dX8_doubles_28 : decode cX8_doubles 28 = .ok (.iconst 1, 1) := by decide +kernel
theorem dX8_doubles_29 : decode cX8_doubles 29 = .ok (.if_icmp .ne 16, 3) := by decide +kernel
theorem dX8_doubles_32 : decode cX8_doubles 32 = .ok (.aload_n 0, 1) := by decide +kernel
theorem dX8_doubles_33 : decode cX8_doubles 33 = .ok (.getfield 107, 3) := by decide +kernel
theorem dX8_doubles_36 : decode cX8_doubles 36 = .ok (.iload_n 2, 1) := by decide +kernel
theorem dX8_doubles_37 : decode cX8_doubles 37 = .ok (.baload, 1) := by decide +kernel
theorem dX8_doubles_38 : decode cX8_doubles 38 = .ok (.ifCond .eq 7, 3) := by decide +kernel
theorem dX8_doubles_41 : decode cX8_doubles 41 = .ok (.iconst 1, 1) := by decide +kernel
theorem dX8_doubles_42 : decode cX8_doubles 42 = .ok (.goto 4, 3) := by decide +kernel
theorem dX8_doubles_45 : decode cX8_doubles 45 = .ok (.iconst 0, 1) := by decide +kernel
theorem dX8_doubles_46 : decode cX8_doubles 46 = .ok (.iadd, 1) := by decide +kernel
theorem dX8_doubles_47 : decode cX8_doubles 47 = .ok (.istore_n 1, 1) := by decide +kernel
theorem dX8_doubles_48 : decode cX8_doubles 48 = .ok (.iinc 2 1, 3) := by decide +kernel
theorem dX8_doubles_51 : decode cX8_doubles 51 = .ok (.goto (-47), 3) := by decide +kernel
theorem dX8_doubles_54 : decode cX8_doubles 54 = .ok (.iload_n 1, 1) := by decide +kernel
theorem dX8_doubles_55 : decode cX8_doubles 55 = .ok (.ireturn, 1) := by decide +kernel
theorem dX8_isUnmet_0 : decode cX8_isUnmet 0 = .ok (.aload_n 0, 1) := by decide +kernel
theorem dX8_isUnmet_1 : decode cX8_isUnmet 1 = .ok (.getfield 9, 3) := by decide +kernel
theorem dX8_isUnmet_4 : decode cX8_isUnmet 4 = .ok (.iload_n 1, 1) := by decide +kernel
theorem dX8_isUnmet_5 : decode cX8_isUnmet 5 = .ok (.iaload, 1) := by decide +kernel
theorem dX8_isUnmet_6 : decode cX8_isUnmet 6 = .ok (.bipush 10, 2) := by decide +kernel
theorem dX8_isUnmet_8 : decode cX8_isUnmet 8 = .ok (.if_icmp .ne 17, 3) := by decide +kernel
theorem dX8_isUnmet_11 : decode cX8_isUnmet 11 = .ok (.aload_n 0, 1) := by decide +kernel
theorem dX8_isUnmet_12 : decode cX8_isUnmet 12 = .ok (.getfield 35, 3) := by decide +kernel
theorem dX8_isUnmet_15 : decode cX8_isUnmet 15 = .ok (.iload_n 1, 1) := by decide +kernel
theorem dX8_isUnmet_16 : decode cX8_isUnmet 16 = .ok (.iaload, 1) := by decide +kernel
theorem dX8_isUnmet_17 : decode cX8_isUnmet 17 = .ok (.iconst 1, 1) := by decide +kernel
theorem dX8_isUnmet_18 : decode cX8_isUnmet 18 = .ok (.if_icmp .ne 7, 3) := by decide +kernel
theorem dX8_isUnmet_21 : decode cX8_isUnmet 21 = .ok (.iconst 1, 1) := by decide +kernel
theorem dX8_isUnmet_22 : decode cX8_isUnmet 22 = .ok (.goto 4, 3) := by decide +kernel
theorem dX8_isUnmet_25 : decode cX8_isUnmet 25 = .ok (.iconst 0, 1) := by decide +kernel
theorem dX8_isUnmet_26 : decode cX8_isUnmet 26 = .ok (.ireturn, 1) := by decide +kernel
theorem dX8_match_0 : decode cX8_match 0 = .ok (.iconst 0, 1) := by decide +kernel
theorem dX8_match_1 : decode cX8_match 1 = .ok (.istore_n 3, 1) := by decide +kernel
theorem dX8_match_2 : decode cX8_match 2 = .ok (.bipush 8, 2) := by decide +kernel
theorem dX8_match_4 : decode cX8_match 4 = .ok (.iload_n 1, 1) := by decide +kernel
theorem dX8_match_5 : decode cX8_match 5 = .ok (.imul, 1) := by decide +kernel
theorem dX8_match_6 : decode cX8_match 6 = .ok (.istore 4, 2) := by decide +kernel
theorem dX8_match_8 : decode cX8_match 8 = .ok (.iload 4, 2) := by decide +kernel
theorem dX8_match_10 : decode cX8_match 10 = .ok (.bipush 8, 2) := by decide +kernel
theorem dX8_match_12 : decode cX8_match 12 = .ok (.iload_n 1, 1) := by decide +kernel
theorem dX8_match_13 : decode cX8_match 13 = .ok (.imul, 1) := by decide +kernel
theorem dX8_match_14 : decode cX8_match 14 = .ok (.aload_n 0, 1) := by decide +kernel
theorem dX8_match_15 : decode cX8_match 15 = .ok (.getfield 13, 3) := by decide +kernel
theorem dX8_match_18 : decode cX8_match 18 = .ok (.iload_n 1, 1) := by decide +kernel
theorem dX8_match_19 : decode cX8_match 19 = .ok (.iaload, 1) := by decide +kernel
theorem dX8_match_20 : decode cX8_match 20 = .ok (.iadd, 1) := by decide +kernel
theorem dX8_match_21 : decode cX8_match 21 = .ok (.if_icmp .ge 101, 3) := by decide +kernel
theorem dX8_match_24 : decode cX8_match 24 = .ok (.bipush 8, 2) := by decide +kernel
theorem dX8_match_26 : decode cX8_match 26 = .ok (.iload_n 2, 1) := by decide +kernel
theorem dX8_match_27 : decode cX8_match 27 = .ok (.imul, 1) := by decide +kernel
theorem dX8_match_28 : decode cX8_match 28 = .ok (.istore 5, 2) := by decide +kernel
theorem dX8_match_30 : decode cX8_match 30 = .ok (.iload 5, 2) := by decide +kernel
theorem dX8_match_32 : decode cX8_match 32 = .ok (.bipush 8, 2) := by decide +kernel
theorem dX8_match_34 : decode cX8_match 34 = .ok (.iload_n 2, 1) := by decide +kernel
theorem dX8_match_35 : decode cX8_match 35 = .ok (.imul, 1) := by decide +kernel
theorem dX8_match_36 : decode cX8_match 36 = .ok (.aload_n 0, 1) := by decide +kernel
theorem dX8_match_37 : decode cX8_match 37 = .ok (.getfield 13, 3) := by decide +kernel
theorem dX8_match_40 : decode cX8_match 40 = .ok (.iload_n 2, 1) := by decide +kernel
theorem dX8_match_41 : decode cX8_match 41 = .ok (.iaload, 1) := by decide +kernel
theorem dX8_match_42 : decode cX8_match 42 = .ok (.iadd, 1) := by decide +kernel
theorem dX8_match_43 : decode cX8_match 43 = .ok (.if_icmp .ge 73, 3) := by decide +kernel
theorem dX8_match_46 : decode cX8_match 46 = .ok (.iload_n 3, 1) := by decide +kernel
theorem dX8_match_47 : decode cX8_match 47 = .ok (.ifCond .ne 57, 3) := by decide +kernel
theorem dX8_match_50 : decode cX8_match 50 = .ok (.aload_n 0, 1) := by decide +kernel
theorem dX8_match_51 : decode cX8_match 51 = .ok (.getfield 25, 3) := by decide +kernel
theorem dX8_match_54 : decode cX8_match 54 = .ok (.iload 4, 2) := by decide +kernel
theorem dX8_match_56 : decode cX8_match 56 = .ok (.baload, 1) := by decide +kernel
theorem dX8_match_57 : decode cX8_match 57 = .ok (.ifCond .eq 51, 3) := by decide +kernel
theorem dX8_match_60 : decode cX8_match 60 = .ok (.aload_n 0, 1) := by decide +kernel
theorem dX8_match_61 : decode cX8_match 61 = .ok (.getfield 25, 3) := by decide +kernel
theorem dX8_match_64 : decode cX8_match 64 = .ok (.iload 5, 2) := by decide +kernel
theorem dX8_match_66 : decode cX8_match 66 = .ok (.baload, 1) := by decide +kernel
theorem dX8_match_67 : decode cX8_match 67 = .ok (.ifCond .eq 41, 3) := by decide +kernel
theorem dX8_match_70 : decode cX8_match 70 = .ok (.aload_n 0, 1) := by decide +kernel
theorem dX8_match_71 : decode cX8_match 71 = .ok (.getfield 19, 3) := by decide +kernel
theorem dX8_match_74 : decode cX8_match 74 = .ok (.iload 4, 2) := by decide +kernel
theorem dX8_match_76 : decode cX8_match 76 = .ok (.iaload, 1) := by decide +kernel
theorem dX8_match_77 : decode cX8_match 77 = .ok (.aload_n 0, 1) := by decide +kernel
theorem dX8_match_78 : decode cX8_match 78 = .ok (.getfield 19, 3) := by decide +kernel
theorem dX8_match_81 : decode cX8_match 81 = .ok (.iload 5, 2) := by decide +kernel
theorem dX8_match_83 : decode cX8_match 83 = .ok (.iaload, 1) := by decide +kernel
theorem dX8_match_84 : decode cX8_match 84 = .ok (.if_icmp .ne 24, 3) := by decide +kernel
theorem dX8_match_87 : decode cX8_match 87 = .ok (.aload_n 0, 1) := by decide +kernel
theorem dX8_match_88 : decode cX8_match 88 = .ok (.getfield 16, 3) := by decide +kernel
theorem dX8_match_91 : decode cX8_match 91 = .ok (.iload 4, 2) := by decide +kernel
theorem dX8_match_93 : decode cX8_match 93 = .ok (.iaload, 1) := by decide +kernel
theorem dX8_match_94 : decode cX8_match 94 = .ok (.aload_n 0, 1) := by decide +kernel
theorem dX8_match_95 : decode cX8_match 95 = .ok (.getfield 16, 3) := by decide +kernel
theorem dX8_match_98 : decode cX8_match 98 = .ok (.iload 5, 2) := by decide +kernel
theorem dX8_match_100 : decode cX8_match 100 = .ok (.iaload, 1) := by decide +kernel
theorem dX8_match_101 : decode cX8_match 101 = .ok (.if_icmp .eq 7, 3) := by decide +kernel
theorem dX8_match_104 : decode cX8_match 104 = .ok (.iconst 1, 1) := by decide +kernel
theorem dX8_match_105 : decode cX8_match 105 = .ok (.goto 4, 3) := by decide +kernel
theorem dX8_match_108 : decode cX8_match 108 = .ok (.iconst 0, 1) := by decide +kernel
theorem dX8_match_109 : decode cX8_match 109 = .ok (.istore_n 3, 1) := by decide +kernel
theorem dX8_match_110 : decode cX8_match 110 = .ok (.iinc 5 1, 3) := by decide +kernel
theorem dX8_match_113 : decode cX8_match 113 = .ok (.goto (-83), 3) := by decide +kernel
theorem dX8_match_116 : decode cX8_match 116 = .ok (.iinc 4 1, 3) := by decide +kernel
theorem dX8_match_119 : decode cX8_match 119 = .ok (.goto (-111), 3) := by decide +kernel
theorem dX8_match_122 : decode cX8_match 122 = .ok (.iload_n 3, 1) := by decide +kernel
theorem dX8_match_123 : decode cX8_match 123 = .ok (.ireturn, 1) := by decide +kernel
theorem dX8_unmet_0 : decode cX8_unmet 0 = .ok (.iconst 0, 1) := by decide +kernel
theorem dX8_unmet_1 : decode cX8_unmet 1 = .ok (.istore_n 1, 1) := by decide +kernel
theorem dX8_unmet_2 : decode cX8_unmet 2 = .ok (.iconst 0, 1) := by decide +kernel
theorem dX8_unmet_3 : decode cX8_unmet 3 = .ok (.istore_n 2, 1) := by decide +kernel
theorem dX8_unmet_4 : decode cX8_unmet 4 = .ok (.iload_n 2, 1) := by decide +kernel
theorem dX8_unmet_5 : decode cX8_unmet 5 = .ok (.aload_n 0, 1) := by decide +kernel
theorem dX8_unmet_6 : decode cX8_unmet 6 = .ok (.getfield 110, 3) := by decide +kernel
theorem dX8_unmet_9 : decode cX8_unmet 9 = .ok (.if_icmp .ge 60, 3) := by decide +kernel
theorem dX8_unmet_12 : decode cX8_unmet 12 = .ok (.iload_n 2, 1) := by decide +kernel
theorem dX8_unmet_13 : decode cX8_unmet 13 = .ok (.iconst 1, 1) := by decide +kernel
theorem dX8_unmet_14 : decode cX8_unmet 14 = .ok (.iadd, 1) := by decide +kernel
theorem dX8_unmet_15 : decode cX8_unmet 15 = .ok (.istore_n 3, 1) := by decide +kernel
theorem dX8_unmet_16 : decode cX8_unmet 16 = .ok (.iload_n 3, 1) := by decide +kernel
theorem dX8_unmet_17 : decode cX8_unmet 17 = .ok (.aload_n 0, 1) := by decide +kernel
theorem dX8_unmet_18 : decode cX8_unmet 18 = .ok (.getfield 110, 3) := by decide +kernel
theorem dX8_unmet_21 : decode cX8_unmet 21 = .ok (.if_icmp .ge 42, 3) := by decide +kernel
theorem dX8_unmet_24 : decode cX8_unmet 24 = .ok (.iload_n 1, 1) := by decide +kernel
theorem dX8_unmet_25 : decode cX8_unmet 25 = .ok (.aload_n 0, 1) := by decide +kernel
theorem dX8_unmet_26 : decode cX8_unmet 26 = .ok (.iload_n 2, 1) := by decide +kernel
theorem dX8_unmet_27 : decode cX8_unmet 27 = .ok (.invokevirtual 219, 3) := by decide +kernel
theorem dX8_unmet_30 : decode cX8_unmet 30 = .ok (.ifCond .eq 24, 3) := by decide +kernel
theorem dX8_unmet_33 : decode cX8_unmet 33 = .ok (.aload_n 0, 1) := by decide +kernel
theorem dX8_unmet_34 : decode cX8_unmet 34 = .ok (.iload_n 3, 1) := by decide +kernel
theorem dX8_unmet_35 : decode cX8_unmet 35 = .ok (.invokevirtual 219, 3) := by decide +kernel
theorem dX8_unmet_38 : decode cX8_unmet 38 = .ok (.ifCond .eq 16, 3) := by decide +kernel
theorem dX8_unmet_41 : decode cX8_unmet 41 = .ok (.aload_n 0, 1) := by decide +kernel
theorem dX8_unmet_42 : decode cX8_unmet 42 = .ok (.iload_n 2, 1) := by decide +kernel
theorem dX8_unmet_43 : decode cX8_unmet 43 = .ok (.iload_n 3, 1) := by decide +kernel
theorem dX8_unmet_44 : decode cX8_unmet 44 = .ok (.invokevirtual 222, 3) := by decide +kernel
theorem dX8_unmet_47 : decode cX8_unmet 47 = .ok (.ifCond .eq 7, 3) := by decide +kernel
theorem dX8_unmet_50 : decode cX8_unmet 50 = .ok (.iconst 1, 1) := by decide +kernel
theorem dX8_unmet_51 : decode cX8_unmet 51 = .ok (.goto 4, 3) := by decide +kernel
theorem dX8_unmet_54 : decode cX8_unmet 54 = .ok (.iconst 0, 1) := by decide +kernel
theorem dX8_unmet_55 : decode cX8_unmet 55 = .ok (.iadd, 1) := by decide +kernel
theorem dX8_unmet_56 : decode cX8_unmet 56 = .ok (.istore_n 1, 1) := by decide +kernel
theorem dX8_unmet_57 : decode cX8_unmet 57 = .ok (.iinc 3 1, 3) := by decide +kernel
theorem dX8_unmet_60 : decode cX8_unmet 60 = .ok (.goto (-44), 3) := by decide +kernel
theorem dX8_unmet_63 : decode cX8_unmet 63 = .ok (.iinc 2 1, 3) := by decide +kernel
theorem dX8_unmet_66 : decode cX8_unmet 66 = .ok (.goto (-62), 3) := by decide +kernel
theorem dX8_unmet_69 : decode cX8_unmet 69 = .ok (.iload_n 1, 1) := by decide +kernel
theorem dX8_unmet_70 : decode cX8_unmet 70 = .ok (.ireturn, 1) := by decide +kernel
theorem dX8_held_0 : decode cX8_held 0 = .ok (.iconst 0, 1) := by decide +kernel
theorem dX8_held_1 : decode cX8_held 1 = .ok (.istore_n 1, 1) := by decide +kernel
theorem dX8_held_2 : decode cX8_held 2 = .ok (.iconst 0, 1) := by decide +kernel
theorem dX8_held_3 : decode cX8_held 3 = .ok (.istore_n 2, 1) := by decide +kernel
theorem dX8_held_4 : decode cX8_held 4 = .ok (.iload_n 2, 1) := by decide +kernel
theorem dX8_held_5 : decode cX8_held 5 = .ok (.aload_n 0, 1) := by decide +kernel
theorem dX8_held_6 : decode cX8_held 6 = .ok (.getfield 110, 3) := by decide +kernel
theorem dX8_held_9 : decode cX8_held 9 = .ok (.if_icmp .ge 65, 3) := by decide +kernel
theorem dX8_held_12 : decode cX8_held 12 = .ok (.aload_n 0, 1) := by decide +kernel
theorem dX8_held_13 : decode cX8_held 13 = .ok (.getfield 35, 3) := by decide +kernel
theorem dX8_held_16 : decode cX8_held 16 = .ok (.iload_n 2, 1) := by decide +kernel
theorem dX8_held_17 : decode cX8_held 17 = .ok (.iaload, 1) := by decide +kernel
theorem dX8_held_18 : decode cX8_held 18 = .ok (.iconst 2, 1) := by decide +kernel
theorem dX8_held_19 : decode cX8_held 19 = .ok (.if_icmp .eq 6, 3) := by decide +kernel
theorem dX8_held_22 : decode cX8_held 22 = .ok (.goto 46, 3) := by decide +kernel
theorem dX8_held_25 : decode cX8_held 25 = .ok (.aload_n 0, 1) := by decide +kernel
theorem dX8_held_26 : decode cX8_held 26 = .ok (.getfield 9, 3) := by decide +kernel
theorem dX8_held_29 : decode cX8_held 29 = .ok (.aload_n 0, 1) := by decide +kernel
theorem dX8_held_30 : decode cX8_held 30 = .ok (.getfield 41, 3) := by decide +kernel
theorem dX8_held_33 : decode cX8_held 33 = .ok (.iload_n 2, 1) := by decide +kernel
theorem dX8_held_34 : decode cX8_held 34 = .ok (.iaload, 1) := by decide +kernel
theorem dX8_held_35 : decode cX8_held 35 = .ok (.iaload, 1) := by decide +kernel
theorem dX8_held_36 : decode cX8_held 36 = .ok (.istore_n 3, 1) := by decide +kernel
theorem dX8_held_37 : decode cX8_held 37 = .ok (.iload_n 1, 1) := by decide +kernel
theorem dX8_held_38 : decode cX8_held 38 = .ok (.iload_n 3, 1) := by decide +kernel
theorem dX8_held_39 : decode cX8_held 39 = .ok (.iconst 5, 1) := by decide +kernel
theorem dX8_held_40 : decode cX8_held 40 = .ok (.if_icmp .eq 21, 3) := by decide +kernel
theorem dX8_held_43 : decode cX8_held 43 = .ok (.iload_n 3, 1) := by decide +kernel
theorem dX8_held_44 : decode cX8_held 44 = .ok (.bipush 6, 2) := by decide +kernel
theorem dX8_held_46 : decode cX8_held 46 = .ok (.if_icmp .eq 15, 3) := by decide +kernel
theorem dX8_held_49 : decode cX8_held 49 = .ok (.iload_n 3, 1) := by decide +kernel
theorem dX8_held_50 : decode cX8_held 50 = .ok (.bipush 7, 2) := by decide +kernel
theorem dX8_held_52 : decode cX8_held 52 = .ok (.if_icmp .eq 9, 3) := by decide +kernel
theorem dX8_held_55 : decode cX8_held 55 = .ok (.iload_n 3, 1) := by decide +kernel
theorem dX8_held_56 : decode cX8_held 56 = .ok (.bipush 8, 2) := by decide +kernel
theorem dX8_held_58 : decode cX8_held 58 = .ok (.if_icmp .ne 7, 3) := by decide +kernel
theorem dX8_held_61 : decode cX8_held 61 = .ok (.iconst 0, 1) := by decide +kernel
theorem dX8_held_62 : decode cX8_held 62 = .ok (.goto 4, 3) := by decide +kernel
theorem dX8_held_65 : decode cX8_held 65 = .ok (.iconst 1, 1) := by decide +kernel
theorem dX8_held_66 : decode cX8_held 66 = .ok (.iadd, 1) := by decide +kernel
theorem dX8_held_67 : decode cX8_held 67 = .ok (.istore_n 1, 1) := by decide +kernel
theorem dX8_held_68 : decode cX8_held 68 = .ok (.iinc 2 1, 3) := by decide +kernel
theorem dX8_held_71 : decode cX8_held 71 = .ok (.goto (-67), 3) := by decide +kernel
theorem dX8_held_74 : decode cX8_held 74 = .ok (.iload_n 1, 1) := by decide +kernel
theorem dX8_held_75 : decode cX8_held 75 = .ok (.ireturn, 1) := by decide +kernel
theorem dX8_count_0 : decode cX8_count 0 = .ok (.iconst 0, 1) := by decide +kernel
theorem dX8_count_1 : decode cX8_count 1 = .ok (.istore_n 2, 1) := by decide +kernel
theorem dX8_count_2 : decode cX8_count 2 = .ok (.iload_n 1, 1) := by decide +kernel
theorem dX8_count_3 : decode cX8_count 3 = .ok (.tableswitch 124 0 8 #[49, 54, 89, 94, 99, 104, 109, 114, 119], 49) := by decide +kernel
theorem dX8_count_52 : decode cX8_count 52 = .ok (.aload_n 0, 1) := by decide +kernel
theorem dX8_count_53 : decode cX8_count 53 = .ok (.getfield 110, 3) := by decide +kernel
theorem dX8_count_56 : decode cX8_count 56 = .ok (.ireturn, 1) := by decide +kernel
theorem dX8_count_57 : decode cX8_count 57 = .ok (.iconst 0, 1) := by decide +kernel
theorem dX8_count_58 : decode cX8_count 58 = .ok (.istore_n 3, 1) := by decide +kernel
theorem dX8_count_59 : decode cX8_count 59 = .ok (.iload_n 3, 1) := by decide +kernel
theorem dX8_count_60 : decode cX8_count 60 = .ok (.aload_n 0, 1) := by decide +kernel
theorem dX8_count_61 : decode cX8_count 61 = .ok (.getfield 110, 3) := by decide +kernel
theorem dX8_count_64 : decode cX8_count 64 = .ok (.if_icmp .ge 26, 3) := by decide +kernel
theorem dX8_count_67 : decode cX8_count 67 = .ok (.iload_n 2, 1) := by decide +kernel
theorem dX8_count_68 : decode cX8_count 68 = .ok (.aload_n 0, 1) := by decide +kernel
theorem dX8_count_69 : decode cX8_count 69 = .ok (.getfield 9, 3) := by decide +kernel
theorem dX8_count_72 : decode cX8_count 72 = .ok (.iload_n 3, 1) := by decide +kernel
theorem dX8_count_73 : decode cX8_count 73 = .ok (.iaload, 1) := by decide +kernel
theorem dX8_count_74 : decode cX8_count 74 = .ok (.ifCond .eq 7, 3) := by decide +kernel
theorem dX8_count_77 : decode cX8_count 77 = .ok (.iconst 1, 1) := by decide +kernel
theorem dX8_count_78 : decode cX8_count 78 = .ok (.goto 4, 3) := by decide +kernel
theorem dX8_count_81 : decode cX8_count 81 = .ok (.iconst 0, 1) := by decide +kernel
theorem dX8_count_82 : decode cX8_count 82 = .ok (.iadd, 1) := by decide +kernel
theorem dX8_count_83 : decode cX8_count 83 = .ok (.istore_n 2, 1) := by decide +kernel
theorem dX8_count_84 : decode cX8_count 84 = .ok (.iinc 3 1, 3) := by decide +kernel
theorem dX8_count_87 : decode cX8_count 87 = .ok (.goto (-28), 3) := by decide +kernel
theorem dX8_count_90 : decode cX8_count 90 = .ok (.iload_n 2, 1) := by decide +kernel
theorem dX8_count_91 : decode cX8_count 91 = .ok (.ireturn, 1) := by decide +kernel
theorem dX8_count_92 : decode cX8_count 92 = .ok (.aload_n 0, 1) := by decide +kernel
theorem dX8_count_93 : decode cX8_count 93 = .ok (.getfield 173, 3) := by decide +kernel
theorem dX8_count_96 : decode cX8_count 96 = .ok (.ireturn, 1) := by decide +kernel
theorem dX8_count_97 : decode cX8_count 97 = .ok (.aload_n 0, 1) := by decide +kernel
theorem dX8_count_98 : decode cX8_count 98 = .ok (.getfield 130, 3) := by decide +kernel
theorem dX8_count_101 : decode cX8_count 101 = .ok (.ireturn, 1) := by decide +kernel
theorem dX8_count_102 : decode cX8_count 102 = .ok (.aload_n 0, 1) := by decide +kernel
theorem dX8_count_103 : decode cX8_count 103 = .ok (.getfield 176, 3) := by decide +kernel
theorem dX8_count_106 : decode cX8_count 106 = .ok (.ireturn, 1) := by decide +kernel
theorem dX8_count_107 : decode cX8_count 107 = .ok (.aload_n 0, 1) := by decide +kernel
theorem dX8_count_108 : decode cX8_count 108 = .ok (.getfield 136, 3) := by decide +kernel
theorem dX8_count_111 : decode cX8_count 111 = .ok (.ireturn, 1) := by decide +kernel
theorem dX8_count_112 : decode cX8_count 112 = .ok (.aload_n 0, 1) := by decide +kernel
theorem dX8_count_113 : decode cX8_count 113 = .ok (.getfield 133, 3) := by decide +kernel
theorem dX8_count_116 : decode cX8_count 116 = .ok (.ireturn, 1) := by decide +kernel
theorem dX8_count_117 : decode cX8_count 117 = .ok (.aload_n 0, 1) := by decide +kernel
theorem dX8_count_118 : decode cX8_count 118 = .ok (.getfield 143, 3) := by decide +kernel
theorem dX8_count_121 : decode cX8_count 121 = .ok (.ireturn, 1) := by decide +kernel
theorem dX8_count_122 : decode cX8_count 122 = .ok (.aload_n 0, 1) := by decide +kernel
theorem dX8_count_123 : decode cX8_count 123 = .ok (.getfield 146, 3) := by decide +kernel
theorem dX8_count_126 : decode cX8_count 126 = .ok (.ireturn, 1) := by decide +kernel
theorem dX8_count_127 : decode cX8_count 127 = .ok (.iconst (-1), 1) := by decide +kernel
theorem dX8_count_128 : decode cX8_count 128 = .ok (.ireturn, 1) := by decide +kernel
end
section
theorem dJ9_max_7cf53_0 : decode cJ9_max_7cf53 0 = .ok (.iload_n 0, 1) := by decide +kernel
theorem dJ9_max_7cf53_1 : decode cJ9_max_7cf53 1 = .ok (.iload_n 1, 1) := by decide +kernel
theorem dJ9_max_7cf53_2 : decode cJ9_max_7cf53 2 = .ok (.if_icmp .lt 7, 3) := by decide +kernel
theorem dJ9_max_7cf53_5 : decode cJ9_max_7cf53 5 = .ok (.iload_n 0, 1) := by decide +kernel
theorem dJ9_max_7cf53_6 : decode cJ9_max_7cf53 6 = .ok (.goto 4, 3) := by decide +kernel
theorem dJ9_max_7cf53_9 : decode cJ9_max_7cf53 9 = .ok (.iload_n 1, 1) := by decide +kernel
theorem dJ9_max_7cf53_10 : decode cJ9_max_7cf53 10 = .ok (.ireturn, 1) := by decide +kernel
theorem dJ9_min_7cf53_0 : decode cJ9_min_7cf53 0 = .ok (.iload_n 0, 1) := by decide +kernel
theorem dJ9_min_7cf53_1 : decode cJ9_min_7cf53 1 = .ok (.iload_n 1, 1) := by decide +kernel
theorem dJ9_min_7cf53_2 : decode cJ9_min_7cf53 2 = .ok (.if_icmp .gt 7, 3) := by decide +kernel
theorem dJ9_min_7cf53_5 : decode cJ9_min_7cf53 5 = .ok (.iload_n 0, 1) := by decide +kernel
theorem dJ9_min_7cf53_6 : decode cJ9_min_7cf53 6 = .ok (.goto 4, 3) := by decide +kernel
theorem dJ9_min_7cf53_9 : decode cJ9_min_7cf53 9 = .ok (.iload_n 1, 1) := by decide +kernel
theorem dJ9_min_7cf53_10 : decode cJ9_min_7cf53 10 = .ok (.ireturn, 1) := by decide +kernel
theorem dL_cell_0 : decode cL_cell 0 = .ok (.iload_n 1, 1) := by decide +kernel
theorem dL_cell_1 : decode cL_cell 1 = .ok (.aload_n 0, 1) := by decide +kernel
theorem dL_cell_2 : decode cL_cell 2 = .ok (.arraylength, 1) := by decide +kernel
theorem dL_cell_3 : decode cL_cell 3 = .ok (.if_icmp .ge 9, 3) := by decide +kernel
theorem dL_cell_6 : decode cL_cell 6 = .ok (.aload_n 0, 1) := by decide +kernel
theorem dL_cell_7 : decode cL_cell 7 = .ok (.iload_n 1, 1) := by decide +kernel
theorem dL_cell_8 : decode cL_cell 8 = .ok (.iaload, 1) := by decide +kernel
theorem dL_cell_9 : decode cL_cell 9 = .ok (.goto 4, 3) := by decide +kernel
theorem dL_cell_12 : decode cL_cell 12 = .ok (.iconst 0, 1) := by decide +kernel
theorem dL_cell_13 : decode cL_cell 13 = .ok (.ireturn, 1) := by decide +kernel
theorem dL_law_0 : decode cL_law 0 = .ok (.new 7, 3) := by decide +kernel
theorem dL_law_3 : decode cL_law 3 = .ok (.dup, 1) := by decide +kernel
theorem dL_law_4 : decode cL_law 4 = .ok (.aload_n 0, 1) := by decide +kernel
theorem dL_law_5 : decode cL_law 5 = .ok (.iconst 0, 1) := by decide +kernel
theorem dL_law_6 : decode cL_law 6 = .ok (.invokestatic 9, 3) := by decide +kernel
theorem dL_law_9 : decode cL_law 9 = .ok (.invokespecial 15, 3) := by decide +kernel
theorem dL_law_12 : decode cL_law 12 = .ok (.astore_n 1, 1) := by decide +kernel
theorem dL_law_13 : decode cL_law 13 = .ok (.new 18, 3) := by decide +kernel
theorem dL_law_16 : decode cL_law 16 = .ok (.dup, 1) := by decide +kernel
theorem dL_law_17 : decode cL_law 17 = .ok (.aload_n 0, 1) := by decide +kernel
theorem dL_law_18 : decode cL_law 18 = .ok (.iconst 0, 1) := by decide +kernel
theorem dL_law_19 : decode cL_law 19 = .ok (.invokestatic 9, 3) := by decide +kernel
theorem dL_law_22 : decode cL_law 22 = .ok (.invokespecial 20, 3) := by decide +kernel
theorem dL_law_25 : decode cL_law 25 = .ok (.astore_n 2, 1) := by decide +kernel
theorem dL_law_26 : decode cL_law 26 = .ok (.iconst 1, 1) := by decide +kernel
theorem dL_law_27 : decode cL_law 27 = .ok (.istore_n 3, 1) := by decide +kernel
theorem dL_law_28 : decode cL_law 28 = .ok (.iload_n 3, 1) := by decide +kernel
theorem dL_law_29 : decode cL_law 29 = .ok (.aload_n 0, 1) := by decide +kernel
theorem dL_law_30 : decode cL_law 30 = .ok (.arraylength, 1) := by decide +kernel
theorem dL_law_31 : decode cL_law 31 = .ok (.bipush 6, 2) := by decide +kernel
theorem dL_law_33 : decode cL_law 33 = .ok (.isub, 1) := by decide +kernel
theorem dL_law_34 : decode cL_law 34 = .ok (.if_icmp .gt 627, 3) := by decide +kernel
theorem dL_law_37 : decode cL_law 37 = .ok (.aload_n 0, 1) := by decide +kernel
theorem dL_law_38 : decode cL_law 38 = .ok (.iload_n 3, 1) := by decide +kernel
theorem dL_law_39 : decode cL_law 39 = .ok (.iaload, 1) := by decide +kernel
theorem dL_law_40 : decode cL_law 40 = .ok (.bipush 31, 2) := by decide +kernel
theorem dL_law_42 : decode cL_law 42 = .ok (.iand, 1) := by decide +kernel
theorem dL_law_43 : decode cL_law 43 = .ok (.tableswitch 612 0 18 #[89, 112, 135, 214, 247, 270, 293, 316, 339, 352, 385, 408, 441, 474, 517, 550, 563, 576, 589], 89) := by decide +kernel
theorem dL_law_132 : decode cL_law 132 = .ok (.aload_n 1, 1) := by decide +kernel
theorem dL_law_133 : decode cL_law 133 = .ok (.aload_n 0, 1) := by decide +kernel
theorem dL_law_134 : decode cL_law 134 = .ok (.iload_n 3, 1) := by decide +kernel
theorem dL_law_135 : decode cL_law 135 = .ok (.iconst 1, 1) := by decide +kernel
theorem dL_law_136 : decode cL_law 136 = .ok (.iadd, 1) := by decide +kernel
theorem dL_law_137 : decode cL_law 137 = .ok (.iaload, 1) := by decide +kernel
theorem dL_law_138 : decode cL_law 138 = .ok (.invokevirtual 21, 3) := by decide +kernel
theorem dL_law_141 : decode cL_law 141 = .ok (.aload_n 2, 1) := by decide +kernel
theorem dL_law_142 : decode cL_law 142 = .ok (.aload_n 0, 1) := by decide +kernel
theorem dL_law_143 : decode cL_law 143 = .ok (.iload_n 3, 1) := by decide +kernel
theorem dL_law_144 : decode cL_law 144 = .ok (.iconst 1, 1) := by decide +kernel
theorem dL_law_145 : decode cL_law 145 = .ok (.iadd, 1) := by decide +kernel
theorem dL_law_146 : decode cL_law 146 = .ok (.iaload, 1) := by decide +kernel
theorem dL_law_147 : decode cL_law 147 = .ok (.invokevirtual 25, 3) := by decide +kernel
theorem dL_law_150 : decode cL_law 150 = .ok (.if_icmp .eq 505, 3) := by decide +kernel
theorem dL_law_153 : decode cL_law 153 = .ok (.iconst 0, 1) := by decide +kernel
theorem dL_law_154 : decode cL_law 154 = .ok (.ireturn, 1) := by decide +kernel
theorem dL_law_155 : decode cL_law 155 = .ok (.aload_n 1, 1) := by decide +kernel
theorem dL_law_156 : decode cL_law 156 = .ok (.aload_n 0, 1) := by decide +kernel
theorem dL_law_157 : decode cL_law 157 = .ok (.iload_n 3, 1) := by decide +kernel
theorem dL_law_158 : decode cL_law 158 = .ok (.iconst 1, 1) := by decide +kernel
theorem dL_law_159 : decode cL_law 159 = .ok (.iadd, 1) := by decide +kernel
theorem dL_law_160 : decode cL_law 160 = .ok (.iaload, 1) := by decide +kernel
theorem dL_law_161 : decode cL_law 161 = .ok (.invokevirtual 26, 3) := by decide +kernel
theorem dL_law_164 : decode cL_law 164 = .ok (.aload_n 2, 1) := by decide +kernel
theorem dL_law_165 : decode cL_law 165 = .ok (.aload_n 0, 1) := by decide +kernel
theorem dL_law_166 : decode cL_law 166 = .ok (.iload_n 3, 1) := by decide +kernel
theorem dL_law_167 : decode cL_law 167 = .ok (.iconst 1, 1) := by decide +kernel
theorem dL_law_168 : decode cL_law 168 = .ok (.iadd, 1) := by decide +kernel
theorem dL_law_169 : decode cL_law 169 = .ok (.iaload, 1) := by decide +kernel
theorem dL_law_170 : decode cL_law 170 = .ok (.invokevirtual 29, 3) := by decide +kernel
theorem dL_law_173 : decode cL_law 173 = .ok (.if_icmp .eq 482, 3) := by decide +kernel
theorem dL_law_176 : decode cL_law 176 = .ok (.iconst 0, 1) := by decide +kernel
theorem dL_law_177 : decode cL_law 177 = .ok (.ireturn, 1) := by decide +kernel
theorem dL_law_178 : decode cL_law 178 = .ok (.aload_n 1, 1) := by decide +kernel
theorem dL_law_179 : decode cL_law 179 = .ok (.aload_n 0, 1) := by decide +kernel
theorem dL_law_180 : decode cL_law 180 = .ok (.iload_n 3, 1) := by decide +kernel
theorem dL_law_181 : decode cL_law 181 = .ok (.iconst 1, 1) := by decide +kernel
theorem dL_law_182 : decode cL_law 182 = .ok (.iadd, 1) := by decide +kernel
theorem dL_law_183 : decode cL_law 183 = .ok (.iaload, 1) := by decide +kernel
theorem dL_law_184 : decode cL_law 184 = .ok (.aload_n 0, 1) := by decide +kernel
theorem dL_law_185 : decode cL_law 185 = .ok (.iload_n 3, 1) := by decide +kernel
theorem dL_law_186 : decode cL_law 186 = .ok (.iconst 2, 1) := by decide +kernel
theorem dL_law_187 : decode cL_law 187 = .ok (.iadd, 1) := by decide +kernel
theorem dL_law_188 : decode cL_law 188 = .ok (.iaload, 1) := by decide +kernel
theorem dL_law_189 : decode cL_law 189 = .ok (.aload_n 0, 1) := by decide +kernel
theorem dL_law_190 : decode cL_law 190 = .ok (.iload_n 3, 1) := by decide +kernel
theorem dL_law_191 : decode cL_law 191 = .ok (.iconst 3, 1) := by decide +kernel
theorem dL_law_192 : decode cL_law 192 = .ok (.iadd, 1) := by decide +kernel
theorem dL_law_193 : decode cL_law 193 = .ok (.iaload, 1) := by decide +kernel
theorem dL_law_194 : decode cL_law 194 = .ok (.aload_n 0, 1) := by decide +kernel
theorem dL_law_195 : decode cL_law 195 = .ok (.iload_n 3, 1) := by decide +kernel
theorem dL_law_196 : decode cL_law 196 = .ok (.iconst 4, 1) := by decide +kernel
theorem dL_law_197 : decode cL_law 197 = .ok (.iadd, 1) := by decide +kernel
theorem dL_law_198 : decode cL_law 198 = .ok (.iaload, 1) := by decide +kernel
theorem dL_law_199 : decode cL_law 199 = .ok (.aload_n 0, 1) := by decide +kernel
theorem dL_law_200 : decode cL_law 200 = .ok (.iload_n 3, 1) := by decide +kernel
theorem dL_law_201 : decode cL_law 201 = .ok (.iconst 5, 1) := by decide +kernel
theorem dL_law_202 : decode cL_law 202 = .ok (.iadd, 1) := by decide +kernel
theorem dL_law_203 : decode cL_law 203 = .ok (.iaload, 1) := by decide +kernel
theorem dL_law_204 : decode cL_law 204 = .ok (.ifCond .eq 7, 3) := by decide +kernel
theorem dL_law_207 : decode cL_law 207 = .ok (.iconst 1, 1) := by decide +kernel
theorem dL_law_208 : decode cL_law 208 = .ok (.goto 4, 3) := by decide +kernel
theorem dL_law_211 : decode cL_law 211 = .ok (.iconst 0, 1) := by decide +kernel
theorem dL_law_212 : decode cL_law 212 = .ok (.invokevirtual 30, 3) := by decide +kernel
theorem dL_law_215 : decode cL_law 215 = .ok (.aload_n 2, 1) := by decide +kernel
theorem dL_law_216 : decode cL_law 216 = .ok (.aload_n 0, 1) := by decide +kernel
theorem dL_law_217 : decode cL_law 217 = .ok (.iload_n 3, 1) := by decide +kernel
theorem dL_law_218 : decode cL_law 218 = .ok (.iconst 1, 1) := by decide +kernel
theorem dL_law_219 : decode cL_law 219 = .ok (.iadd, 1) := by decide +kernel
theorem dL_law_220 : decode cL_law 220 = .ok (.iaload, 1) := by decide +kernel
theorem dL_law_221 : decode cL_law 221 = .ok (.aload_n 0, 1) := by decide +kernel
theorem dL_law_222 : decode cL_law 222 = .ok (.iload_n 3, 1) := by decide +kernel
theorem dL_law_223 : decode cL_law 223 = .ok (.iconst 2, 1) := by decide +kernel
theorem dL_law_224 : decode cL_law 224 = .ok (.iadd, 1) := by decide +kernel
theorem dL_law_225 : decode cL_law 225 = .ok (.iaload, 1) := by decide +kernel
theorem dL_law_226 : decode cL_law 226 = .ok (.aload_n 0, 1) := by decide +kernel
theorem dL_law_227 : decode cL_law 227 = .ok (.iload_n 3, 1) := by decide +kernel
theorem dL_law_228 : decode cL_law 228 = .ok (.iconst 3, 1) := by decide +kernel
theorem dL_law_229 : decode cL_law 229 = .ok (.iadd, 1) := by decide +kernel
theorem dL_law_230 : decode cL_law 230 = .ok (.iaload, 1) := by decide +kernel
theorem dL_law_231 : decode cL_law 231 = .ok (.aload_n 0, 1) := by decide +kernel
theorem dL_law_232 : decode cL_law 232 = .ok (.iload_n 3, 1) := by decide +kernel
theorem dL_law_233 : decode cL_law 233 = .ok (.iconst 4, 1) := by decide +kernel
theorem dL_law_234 : decode cL_law 234 = .ok (.iadd, 1) := by decide +kernel
theorem dL_law_235 : decode cL_law 235 = .ok (.iaload, 1) := by decide +kernel
theorem dL_law_236 : decode cL_law 236 = .ok (.aload_n 0, 1) := by decide +kernel
theorem dL_law_237 : decode cL_law 237 = .ok (.iload_n 3, 1) := by decide +kernel
theorem dL_law_238 : decode cL_law 238 = .ok (.iconst 5, 1) := by decide +kernel
theorem dL_law_239 : decode cL_law 239 = .ok (.iadd, 1) := by decide +kernel
theorem dL_law_240 : decode cL_law 240 = .ok (.iaload, 1) := by decide +kernel
theorem dL_law_241 : decode cL_law 241 = .ok (.ifCond .eq 7, 3) := by decide +kernel
theorem dL_law_244 : decode cL_law 244 = .ok (.iconst 1, 1) := by decide +kernel
theorem dL_law_245 : decode cL_law 245 = .ok (.goto 4, 3) := by decide +kernel
theorem dL_law_248 : decode cL_law 248 = .ok (.iconst 0, 1) := by decide +kernel
theorem dL_law_249 : decode cL_law 249 = .ok (.invokevirtual 34, 3) := by decide +kernel
theorem dL_law_252 : decode cL_law 252 = .ok (.if_icmp .eq 403, 3) := by decide +kernel
theorem dL_law_255 : decode cL_law 255 = .ok (.iconst 0, 1) := by decide +kernel
theorem dL_law_256 : decode cL_law 256 = .ok (.ireturn, 1) := by decide +kernel
theorem dL_law_257 : decode cL_law 257 = .ok (.aload_n 1, 1) := by decide +kernel
theorem dL_law_258 : decode cL_law 258 = .ok (.aload_n 0, 1) := by decide +kernel
theorem dL_law_259 : decode cL_law 259 = .ok (.iload_n 3, 1) := by decide +kernel
theorem dL_law_260 : decode cL_law 260 = .ok (.iconst 1, 1) := by decide +kernel
theorem dL_law_261 : decode cL_law 261 = .ok (.iadd, 1) := by decide +kernel
theorem dL_law_262 : decode cL_law 262 = .ok (.iaload, 1) := by decide +kernel
theorem dL_law_263 : decode cL_law 263 = .ok (.aload_n 0, 1) := by decide +kernel
theorem dL_law_264 : decode cL_law 264 = .ok (.iload_n 3, 1) := by decide +kernel
theorem dL_law_265 : decode cL_law 265 = .ok (.iconst 2, 1) := by decide +kernel
theorem dL_law_266 : decode cL_law 266 = .ok (.iadd, 1) := by decide +kernel
theorem dL_law_267 : decode cL_law 267 = .ok (.iaload, 1) := by decide +kernel
theorem dL_law_268 : decode cL_law 268 = .ok (.invokevirtual 35, 3) := by decide +kernel
theorem dL_law_271 : decode cL_law 271 = .ok (.aload_n 2, 1) := by decide +kernel
theorem dL_law_272 : decode cL_law 272 = .ok (.aload_n 0, 1) := by decide +kernel
theorem dL_law_273 : decode cL_law 273 = .ok (.iload_n 3, 1) := by decide +kernel
theorem dL_law_274 : decode cL_law 274 = .ok (.iconst 1, 1) := by decide +kernel
theorem dL_law_275 : decode cL_law 275 = .ok (.iadd, 1) := by decide +kernel
theorem dL_law_276 : decode cL_law 276 = .ok (.iaload, 1) := by decide +kernel
theorem dL_law_277 : decode cL_law 277 = .ok (.aload_n 0, 1) := by decide +kernel
theorem dL_law_278 : decode cL_law 278 = .ok (.iload_n 3, 1) := by decide +kernel
theorem dL_law_279 : decode cL_law 279 = .ok (.iconst 2, 1) := by decide +kernel
theorem dL_law_280 : decode cL_law 280 = .ok (.iadd, 1) := by decide +kernel
theorem dL_law_281 : decode cL_law 281 = .ok (.iaload, 1) := by decide +kernel
theorem dL_law_282 : decode cL_law 282 = .ok (.invokevirtual 39, 3) := by decide +kernel
theorem dL_law_285 : decode cL_law 285 = .ok (.if_icmp .eq 370, 3) := by decide +kernel
theorem dL_law_288 : decode cL_law 288 = .ok (.iconst 0, 1) := by decide +kernel
theorem dL_law_289 : decode cL_law 289 = .ok (.ireturn, 1) := by decide +kernel
theorem dL_law_290 : decode cL_law 290 = .ok (.aload_n 1, 1) := by decide +kernel
theorem dL_law_291 : decode cL_law 291 = .ok (.aload_n 0, 1) := by decide +kernel
theorem dL_law_292 : decode cL_law 292 = .ok (.iload_n 3, 1) := by decide +kernel
theorem dL_law_293 : decode cL_law 293 = .ok (.iconst 1, 1) := by decide +kernel
theorem dL_law_294 : decode cL_law 294 = .ok (.iadd, 1) := by decide +kernel
theorem dL_law_295 : decode cL_law 295 = .ok (.iaload, 1) := by decide +kernel
theorem dL_law_296 : decode cL_law 296 = .ok (.invokevirtual 40, 3) := by decide +kernel
theorem dL_law_299 : decode cL_law 299 = .ok (.aload_n 2, 1) := by decide +kernel
theorem dL_law_300 : decode cL_law 300 = .ok (.aload_n 0, 1) := by decide +kernel
theorem dL_law_301 : decode cL_law 301 = .ok (.iload_n 3, 1) := by decide +kernel
theorem dL_law_302 : decode cL_law 302 = .ok (.iconst 1, 1) := by decide +kernel
theorem dL_law_303 : decode cL_law 303 = .ok (.iadd, 1) := by decide +kernel
theorem dL_law_304 : decode cL_law 304 = .ok (.iaload, 1) := by decide +kernel
theorem dL_law_305 : decode cL_law 305 = .ok (.invokevirtual 43, 3) := by decide +kernel
theorem dL_law_308 : decode cL_law 308 = .ok (.if_icmp .eq 347, 3) := by decide +kernel
theorem dL_law_311 : decode cL_law 311 = .ok (.iconst 0, 1) := by decide +kernel
theorem dL_law_312 : decode cL_law 312 = .ok (.ireturn, 1) := by decide +kernel
theorem dL_law_313 : decode cL_law 313 = .ok (.aload_n 1, 1) := by decide +kernel
theorem dL_law_314 : decode cL_law 314 = .ok (.aload_n 0, 1) := by decide +kernel
theorem dL_law_315 : decode cL_law 315 = .ok (.iload_n 3, 1) := by decide +kernel
theorem dL_law_316 : decode cL_law 316 = .ok (.iconst 1, 1) := by decide +kernel
theorem dL_law_317 : decode cL_law 317 = .ok (.iadd, 1) := by decide +kernel
theorem dL_law_318 : decode cL_law 318 = .ok (.iaload, 1) := by decide +kernel
theorem dL_law_319 : decode cL_law 319 = .ok (.invokevirtual 44, 3) := by decide +kernel
theorem dL_law_322 : decode cL_law 322 = .ok (.aload_n 2, 1) := by decide +kernel
theorem dL_law_323 : decode cL_law 323 = .ok (.aload_n 0, 1) := by decide +kernel
theorem dL_law_324 : decode cL_law 324 = .ok (.iload_n 3, 1) := by decide +kernel
theorem dL_law_325 : decode cL_law 325 = .ok (.iconst 1, 1) := by decide +kernel
theorem dL_law_326 : decode cL_law 326 = .ok (.iadd, 1) := by decide +kernel
theorem dL_law_327 : decode cL_law 327 = .ok (.iaload, 1) := by decide +kernel
theorem dL_law_328 : decode cL_law 328 = .ok (.invokevirtual 48, 3) := by decide +kernel
theorem dL_law_331 : decode cL_law 331 = .ok (.if_icmp .eq 324, 3) := by decide +kernel
theorem dL_law_334 : decode cL_law 334 = .ok (.iconst 0, 1) := by decide +kernel
theorem dL_law_335 : decode cL_law 335 = .ok (.ireturn, 1) := by decide +kernel
theorem dL_law_336 : decode cL_law 336 = .ok (.aload_n 1, 1) := by decide +kernel
theorem dL_law_337 : decode cL_law 337 = .ok (.aload_n 0, 1) := by decide +kernel
theorem dL_law_338 : decode cL_law 338 = .ok (.iload_n 3, 1) := by decide +kernel
theorem dL_law_339 : decode cL_law 339 = .ok (.iconst 1, 1) := by decide +kernel
theorem dL_law_340 : decode cL_law 340 = .ok (.iadd, 1) := by decide +kernel
theorem dL_law_341 : decode cL_law 341 = .ok (.iaload, 1) := by decide +kernel
theorem dL_law_342 : decode cL_law 342 = .ok (.invokevirtual 49, 3) := by decide +kernel
theorem dL_law_345 : decode cL_law 345 = .ok (.aload_n 2, 1) := by decide +kernel
theorem dL_law_346 : decode cL_law 346 = .ok (.aload_n 0, 1) := by decide +kernel
theorem dL_law_347 : decode cL_law 347 = .ok (.iload_n 3, 1) := by decide +kernel
theorem dL_law_348 : decode cL_law 348 = .ok (.iconst 1, 1) := by decide +kernel
theorem dL_law_349 : decode cL_law 349 = .ok (.iadd, 1) := by decide +kernel
theorem dL_law_350 : decode cL_law 350 = .ok (.iaload, 1) := by decide +kernel
theorem dL_law_351 : decode cL_law 351 = .ok (.invokevirtual 52, 3) := by decide +kernel
theorem dL_law_354 : decode cL_law 354 = .ok (.if_icmp .eq 301, 3) := by decide +kernel
theorem dL_law_357 : decode cL_law 357 = .ok (.iconst 0, 1) := by decide +kernel
theorem dL_law_358 : decode cL_law 358 = .ok (.ireturn, 1) := by decide +kernel
theorem dL_law_359 : decode cL_law 359 = .ok (.aload_n 1, 1) := by decide +kernel
theorem dL_law_360 : decode cL_law 360 = .ok (.aload_n 0, 1) := by decide +kernel
theorem dL_law_361 : decode cL_law 361 = .ok (.iload_n 3, 1) := by decide +kernel
theorem dL_law_362 : decode cL_law 362 = .ok (.iconst 1, 1) := by decide +kernel
theorem dL_law_363 : decode cL_law 363 = .ok (.iadd, 1) := by decide +kernel
theorem dL_law_364 : decode cL_law 364 = .ok (.iaload, 1) := by decide +kernel
theorem dL_law_365 : decode cL_law 365 = .ok (.invokevirtual 53, 3) := by decide +kernel
theorem dL_law_368 : decode cL_law 368 = .ok (.aload_n 2, 1) := by decide +kernel
theorem dL_law_369 : decode cL_law 369 = .ok (.aload_n 0, 1) := by decide +kernel
theorem dL_law_370 : decode cL_law 370 = .ok (.iload_n 3, 1) := by decide +kernel
theorem dL_law_371 : decode cL_law 371 = .ok (.iconst 1, 1) := by decide +kernel
theorem dL_law_372 : decode cL_law 372 = .ok (.iadd, 1) := by decide +kernel
theorem dL_law_373 : decode cL_law 373 = .ok (.iaload, 1) := by decide +kernel
theorem dL_law_374 : decode cL_law 374 = .ok (.invokevirtual 56, 3) := by decide +kernel
theorem dL_law_377 : decode cL_law 377 = .ok (.if_icmp .eq 278, 3) := by decide +kernel
theorem dL_law_380 : decode cL_law 380 = .ok (.iconst 0, 1) := by decide +kernel
theorem dL_law_381 : decode cL_law 381 = .ok (.ireturn, 1) := by decide +kernel
theorem dL_law_382 : decode cL_law 382 = .ok (.aload_n 1, 1) := by decide +kernel
theorem dL_law_383 : decode cL_law 383 = .ok (.invokevirtual 57, 3) := by decide +kernel
theorem dL_law_386 : decode cL_law 386 = .ok (.aload_n 2, 1) := by decide +kernel
theorem dL_law_387 : decode cL_law 387 = .ok (.invokevirtual 61, 3) := by decide +kernel
theorem dL_law_390 : decode cL_law 390 = .ok (.if_icmp .eq 265, 3) := by decide +kernel
theorem dL_law_393 : decode cL_law 393 = .ok (.iconst 0, 1) := by decide +kernel
theorem dL_law_394 : decode cL_law 394 = .ok (.ireturn, 1) := by decide +kernel
theorem dL_law_395 : decode cL_law 395 = .ok (.aload_n 1, 1) := by decide +kernel
theorem dL_law_396 : decode cL_law 396 = .ok (.aload_n 0, 1) := by decide +kernel
theorem dL_law_397 : decode cL_law 397 = .ok (.iload_n 3, 1) := by decide +kernel
theorem dL_law_398 : decode cL_law 398 = .ok (.iconst 1, 1) := by decide +kernel
theorem dL_law_399 : decode cL_law 399 = .ok (.iadd, 1) := by decide +kernel
theorem dL_law_400 : decode cL_law 400 = .ok (.iaload, 1) := by decide +kernel
theorem dL_law_401 : decode cL_law 401 = .ok (.aload_n 0, 1) := by decide +kernel
theorem dL_law_402 : decode cL_law 402 = .ok (.iload_n 3, 1) := by decide +kernel
theorem dL_law_403 : decode cL_law 403 = .ok (.iconst 2, 1) := by decide +kernel
theorem dL_law_404 : decode cL_law 404 = .ok (.iadd, 1) := by decide +kernel
theorem dL_law_405 : decode cL_law 405 = .ok (.iaload, 1) := by decide +kernel
theorem dL_law_406 : decode cL_law 406 = .ok (.invokevirtual 62, 3) := by decide +kernel
theorem dL_law_409 : decode cL_law 409 = .ok (.aload_n 2, 1) := by decide +kernel
theorem dL_law_410 : decode cL_law 410 = .ok (.aload_n 0, 1) := by decide +kernel
theorem dL_law_411 : decode cL_law 411 = .ok (.iload_n 3, 1) := by decide +kernel
theorem dL_law_412 : decode cL_law 412 = .ok (.iconst 1, 1) := by decide +kernel
theorem dL_law_413 : decode cL_law 413 = .ok (.iadd, 1) := by decide +kernel
theorem dL_law_414 : decode cL_law 414 = .ok (.iaload, 1) := by decide +kernel
theorem dL_law_415 : decode cL_law 415 = .ok (.aload_n 0, 1) := by decide +kernel
theorem dL_law_416 : decode cL_law 416 = .ok (.iload_n 3, 1) := by decide +kernel
theorem dL_law_417 : decode cL_law 417 = .ok (.iconst 2, 1) := by decide +kernel
theorem dL_law_418 : decode cL_law 418 = .ok (.iadd, 1) := by decide +kernel
theorem dL_law_419 : decode cL_law 419 = .ok (.iaload, 1) := by decide +kernel
theorem dL_law_420 : decode cL_law 420 = .ok (.invokevirtual 66, 3) := by decide +kernel
theorem dL_law_423 : decode cL_law 423 = .ok (.if_icmp .eq 232, 3) := by decide +kernel
theorem dL_law_426 : decode cL_law 426 = .ok (.iconst 0, 1) := by decide +kernel
theorem dL_law_427 : decode cL_law 427 = .ok (.ireturn, 1) := by decide +kernel
theorem dL_law_428 : decode cL_law 428 = .ok (.aload_n 1, 1) := by decide +kernel
theorem dL_law_429 : decode cL_law 429 = .ok (.aload_n 0, 1) := by decide +kernel
theorem dL_law_430 : decode cL_law 430 = .ok (.iload_n 3, 1) := by decide +kernel
theorem dL_law_431 : decode cL_law 431 = .ok (.iconst 1, 1) := by decide +kernel
theorem dL_law_432 : decode cL_law 432 = .ok (.iadd, 1) := by decide +kernel
theorem dL_law_433 : decode cL_law 433 = .ok (.iaload, 1) := by decide +kernel
theorem dL_law_434 : decode cL_law 434 = .ok (.invokevirtual 67, 3) := by decide +kernel
theorem dL_law_437 : decode cL_law 437 = .ok (.aload_n 2, 1) := by decide +kernel
theorem dL_law_438 : decode cL_law 438 = .ok (.aload_n 0, 1) := by decide +kernel
theorem dL_law_439 : decode cL_law 439 = .ok (.iload_n 3, 1) := by decide +kernel
theorem dL_law_440 : decode cL_law 440 = .ok (.iconst 1, 1) := by decide +kernel
theorem dL_law_441 : decode cL_law 441 = .ok (.iadd, 1) := by decide +kernel
theorem dL_law_442 : decode cL_law 442 = .ok (.iaload, 1) := by decide +kernel
theorem dL_law_443 : decode cL_law 443 = .ok (.invokevirtual 70, 3) := by decide +kernel
theorem dL_law_446 : decode cL_law 446 = .ok (.if_icmp .eq 209, 3) := by decide +kernel
theorem dL_law_449 : decode cL_law 449 = .ok (.iconst 0, 1) := by decide +kernel
theorem dL_law_450 : decode cL_law 450 = .ok (.ireturn, 1) := by decide +kernel
theorem dL_law_451 : decode cL_law 451 = .ok (.aload_n 1, 1) := by decide +kernel
theorem dL_law_452 : decode cL_law 452 = .ok (.aload_n 0, 1) := by decide +kernel
theorem dL_law_453 : decode cL_law 453 = .ok (.iload_n 3, 1) := by decide +kernel
theorem dL_law_454 : decode cL_law 454 = .ok (.iconst 1, 1) := by decide +kernel
theorem dL_law_455 : decode cL_law 455 = .ok (.iadd, 1) := by decide +kernel
theorem dL_law_456 : decode cL_law 456 = .ok (.iaload, 1) := by decide +kernel
theorem dL_law_457 : decode cL_law 457 = .ok (.aload_n 0, 1) := by decide +kernel
theorem dL_law_458 : decode cL_law 458 = .ok (.iload_n 3, 1) := by decide +kernel
theorem dL_law_459 : decode cL_law 459 = .ok (.iconst 2, 1) := by decide +kernel
theorem dL_law_460 : decode cL_law 460 = .ok (.iadd, 1) := by decide +kernel
theorem dL_law_461 : decode cL_law 461 = .ok (.iaload, 1) := by decide +kernel
theorem dL_law_462 : decode cL_law 462 = .ok (.invokevirtual 71, 3) := by decide +kernel
theorem dL_law_465 : decode cL_law 465 = .ok (.aload_n 2, 1) := by decide +kernel
theorem dL_law_466 : decode cL_law 466 = .ok (.aload_n 0, 1) := by decide +kernel
theorem dL_law_467 : decode cL_law 467 = .ok (.iload_n 3, 1) := by decide +kernel
theorem dL_law_468 : decode cL_law 468 = .ok (.iconst 1, 1) := by decide +kernel
theorem dL_law_469 : decode cL_law 469 = .ok (.iadd, 1) := by decide +kernel
theorem dL_law_470 : decode cL_law 470 = .ok (.iaload, 1) := by decide +kernel
theorem dL_law_471 : decode cL_law 471 = .ok (.aload_n 0, 1) := by decide +kernel
theorem dL_law_472 : decode cL_law 472 = .ok (.iload_n 3, 1) := by decide +kernel
theorem dL_law_473 : decode cL_law 473 = .ok (.iconst 2, 1) := by decide +kernel
theorem dL_law_474 : decode cL_law 474 = .ok (.iadd, 1) := by decide +kernel
theorem dL_law_475 : decode cL_law 475 = .ok (.iaload, 1) := by decide +kernel
theorem dL_law_476 : decode cL_law 476 = .ok (.invokevirtual 74, 3) := by decide +kernel
theorem dL_law_479 : decode cL_law 479 = .ok (.if_icmp .eq 176, 3) := by decide +kernel
theorem dL_law_482 : decode cL_law 482 = .ok (.iconst 0, 1) := by decide +kernel
theorem dL_law_483 : decode cL_law 483 = .ok (.ireturn, 1) := by decide +kernel
theorem dL_law_484 : decode cL_law 484 = .ok (.aload_n 1, 1) := by decide +kernel
theorem dL_law_485 : decode cL_law 485 = .ok (.aload_n 0, 1) := by decide +kernel
theorem dL_law_486 : decode cL_law 486 = .ok (.iload_n 3, 1) := by decide +kernel
theorem dL_law_487 : decode cL_law 487 = .ok (.iconst 1, 1) := by decide +kernel
theorem dL_law_488 : decode cL_law 488 = .ok (.iadd, 1) := by decide +kernel
theorem dL_law_489 : decode cL_law 489 = .ok (.iaload, 1) := by decide +kernel
theorem dL_law_490 : decode cL_law 490 = .ok (.aload_n 0, 1) := by decide +kernel
theorem dL_law_491 : decode cL_law 491 = .ok (.iload_n 3, 1) := by decide +kernel
theorem dL_law_492 : decode cL_law 492 = .ok (.iconst 2, 1) := by decide +kernel
theorem dL_law_493 : decode cL_law 493 = .ok (.iadd, 1) := by decide +kernel
theorem dL_law_494 : decode cL_law 494 = .ok (.iaload, 1) := by decide +kernel
theorem dL_law_495 : decode cL_law 495 = .ok (.invokevirtual 75, 3) := by decide +kernel
theorem dL_law_498 : decode cL_law 498 = .ok (.aload_n 2, 1) := by decide +kernel
theorem dL_law_499 : decode cL_law 499 = .ok (.aload_n 0, 1) := by decide +kernel
theorem dL_law_500 : decode cL_law 500 = .ok (.iload_n 3, 1) := by decide +kernel
theorem dL_law_501 : decode cL_law 501 = .ok (.iconst 1, 1) := by decide +kernel
theorem dL_law_502 : decode cL_law 502 = .ok (.iadd, 1) := by decide +kernel
theorem dL_law_503 : decode cL_law 503 = .ok (.iaload, 1) := by decide +kernel
theorem dL_law_504 : decode cL_law 504 = .ok (.aload_n 0, 1) := by decide +kernel
theorem dL_law_505 : decode cL_law 505 = .ok (.iload_n 3, 1) := by decide +kernel
theorem dL_law_506 : decode cL_law 506 = .ok (.iconst 2, 1) := by decide +kernel
theorem dL_law_507 : decode cL_law 507 = .ok (.iadd, 1) := by decide +kernel
theorem dL_law_508 : decode cL_law 508 = .ok (.iaload, 1) := by decide +kernel
theorem dL_law_509 : decode cL_law 509 = .ok (.invokevirtual 78, 3) := by decide +kernel
theorem dL_law_512 : decode cL_law 512 = .ok (.if_icmp .eq 143, 3) := by decide +kernel
theorem dL_law_515 : decode cL_law 515 = .ok (.iconst 0, 1) := by decide +kernel
theorem dL_law_516 : decode cL_law 516 = .ok (.ireturn, 1) := by decide +kernel
theorem dL_law_517 : decode cL_law 517 = .ok (.aload_n 1, 1) := by decide +kernel
theorem dL_law_518 : decode cL_law 518 = .ok (.aload_n 0, 1) := by decide +kernel
theorem dL_law_519 : decode cL_law 519 = .ok (.iload_n 3, 1) := by decide +kernel
theorem dL_law_520 : decode cL_law 520 = .ok (.iconst 1, 1) := by decide +kernel
theorem dL_law_521 : decode cL_law 521 = .ok (.iadd, 1) := by decide +kernel
theorem dL_law_522 : decode cL_law 522 = .ok (.iaload, 1) := by decide +kernel
theorem dL_law_523 : decode cL_law 523 = .ok (.aload_n 0, 1) := by decide +kernel
theorem dL_law_524 : decode cL_law 524 = .ok (.iload_n 3, 1) := by decide +kernel
theorem dL_law_525 : decode cL_law 525 = .ok (.iconst 2, 1) := by decide +kernel
theorem dL_law_526 : decode cL_law 526 = .ok (.iadd, 1) := by decide +kernel
theorem dL_law_527 : decode cL_law 527 = .ok (.iaload, 1) := by decide +kernel
theorem dL_law_528 : decode cL_law 528 = .ok (.aload_n 0, 1) := by decide +kernel
theorem dL_law_529 : decode cL_law 529 = .ok (.iload_n 3, 1) := by decide +kernel
theorem dL_law_530 : decode cL_law 530 = .ok (.iconst 3, 1) := by decide +kernel
theorem dL_law_531 : decode cL_law 531 = .ok (.iadd, 1) := by decide +kernel
theorem dL_law_532 : decode cL_law 532 = .ok (.iaload, 1) := by decide +kernel
theorem dL_law_533 : decode cL_law 533 = .ok (.invokevirtual 79, 3) := by decide +kernel
theorem dL_law_536 : decode cL_law 536 = .ok (.aload_n 2, 1) := by decide +kernel
theorem dL_law_537 : decode cL_law 537 = .ok (.aload_n 0, 1) := by decide +kernel
theorem dL_law_538 : decode cL_law 538 = .ok (.iload_n 3, 1) := by decide +kernel
theorem dL_law_539 : decode cL_law 539 = .ok (.iconst 1, 1) := by decide +kernel
theorem dL_law_540 : decode cL_law 540 = .ok (.iadd, 1) := by decide +kernel
theorem dL_law_541 : decode cL_law 541 = .ok (.iaload, 1) := by decide +kernel
theorem dL_law_542 : decode cL_law 542 = .ok (.aload_n 0, 1) := by decide +kernel
theorem dL_law_543 : decode cL_law 543 = .ok (.iload_n 3, 1) := by decide +kernel
theorem dL_law_544 : decode cL_law 544 = .ok (.iconst 2, 1) := by decide +kernel
theorem dL_law_545 : decode cL_law 545 = .ok (.iadd, 1) := by decide +kernel
theorem dL_law_546 : decode cL_law 546 = .ok (.iaload, 1) := by decide +kernel
theorem dL_law_547 : decode cL_law 547 = .ok (.aload_n 0, 1) := by decide +kernel
theorem dL_law_548 : decode cL_law 548 = .ok (.iload_n 3, 1) := by decide +kernel
theorem dL_law_549 : decode cL_law 549 = .ok (.iconst 3, 1) := by decide +kernel
theorem dL_law_550 : decode cL_law 550 = .ok (.iadd, 1) := by decide +kernel
theorem dL_law_551 : decode cL_law 551 = .ok (.iaload, 1) := by decide +kernel
theorem dL_law_552 : decode cL_law 552 = .ok (.invokevirtual 83, 3) := by decide +kernel
theorem dL_law_555 : decode cL_law 555 = .ok (.if_icmp .eq 100, 3) := by decide +kernel
theorem dL_law_558 : decode cL_law 558 = .ok (.iconst 0, 1) := by decide +kernel
theorem dL_law_559 : decode cL_law 559 = .ok (.ireturn, 1) := by decide +kernel
theorem dL_law_560 : decode cL_law 560 = .ok (.aload_n 1, 1) := by decide +kernel
theorem dL_law_561 : decode cL_law 561 = .ok (.aload_n 0, 1) := by decide +kernel
theorem dL_law_562 : decode cL_law 562 = .ok (.iload_n 3, 1) := by decide +kernel
theorem dL_law_563 : decode cL_law 563 = .ok (.iconst 1, 1) := by decide +kernel
theorem dL_law_564 : decode cL_law 564 = .ok (.iadd, 1) := by decide +kernel
theorem dL_law_565 : decode cL_law 565 = .ok (.iaload, 1) := by decide +kernel
theorem dL_law_566 : decode cL_law 566 = .ok (.aload_n 0, 1) := by decide +kernel
theorem dL_law_567 : decode cL_law 567 = .ok (.iload_n 3, 1) := by decide +kernel
theorem dL_law_568 : decode cL_law 568 = .ok (.iconst 2, 1) := by decide +kernel
theorem dL_law_569 : decode cL_law 569 = .ok (.iadd, 1) := by decide +kernel
theorem dL_law_570 : decode cL_law 570 = .ok (.iaload, 1) := by decide +kernel
theorem dL_law_571 : decode cL_law 571 = .ok (.invokevirtual 84, 3) := by decide +kernel
theorem dL_law_574 : decode cL_law 574 = .ok (.aload_n 2, 1) := by decide +kernel
theorem dL_law_575 : decode cL_law 575 = .ok (.aload_n 0, 1) := by decide +kernel
theorem dL_law_576 : decode cL_law 576 = .ok (.iload_n 3, 1) := by decide +kernel
theorem dL_law_577 : decode cL_law 577 = .ok (.iconst 1, 1) := by decide +kernel
theorem dL_law_578 : decode cL_law 578 = .ok (.iadd, 1) := by decide +kernel
theorem dL_law_579 : decode cL_law 579 = .ok (.iaload, 1) := by decide +kernel
theorem dL_law_580 : decode cL_law 580 = .ok (.aload_n 0, 1) := by decide +kernel
theorem dL_law_581 : decode cL_law 581 = .ok (.iload_n 3, 1) := by decide +kernel
theorem dL_law_582 : decode cL_law 582 = .ok (.iconst 2, 1) := by decide +kernel
theorem dL_law_583 : decode cL_law 583 = .ok (.iadd, 1) := by decide +kernel
theorem dL_law_584 : decode cL_law 584 = .ok (.iaload, 1) := by decide +kernel
theorem dL_law_585 : decode cL_law 585 = .ok (.invokevirtual 87, 3) := by decide +kernel
theorem dL_law_588 : decode cL_law 588 = .ok (.if_icmp .eq 67, 3) := by decide +kernel
theorem dL_law_591 : decode cL_law 591 = .ok (.iconst 0, 1) := by decide +kernel
theorem dL_law_592 : decode cL_law 592 = .ok (.ireturn, 1) := by decide +kernel
theorem dL_law_593 : decode cL_law 593 = .ok (.aload_n 1, 1) := by decide +kernel
theorem dL_law_594 : decode cL_law 594 = .ok (.invokevirtual 88, 3) := by decide +kernel
theorem dL_law_597 : decode cL_law 597 = .ok (.aload_n 2, 1) := by decide +kernel
theorem dL_law_598 : decode cL_law 598 = .ok (.invokevirtual 91, 3) := by decide +kernel
theorem dL_law_601 : decode cL_law 601 = .ok (.if_icmp .eq 54, 3) := by decide +kernel
theorem dL_law_604 : decode cL_law 604 = .ok (.iconst 0, 1) := by decide +kernel
theorem dL_law_605 : decode cL_law 605 = .ok (.ireturn, 1) := by decide +kernel
theorem dL_law_606 : decode cL_law 606 = .ok (.aload_n 1, 1) := by decide +kernel
theorem dL_law_607 : decode cL_law 607 = .ok (.invokevirtual 92, 3) := by decide +kernel
theorem dL_law_610 : decode cL_law 610 = .ok (.aload_n 2, 1) := by decide +kernel
theorem dL_law_611 : decode cL_law 611 = .ok (.invokevirtual 95, 3) := by decide +kernel
theorem dL_law_614 : decode cL_law 614 = .ok (.if_icmp .eq 41, 3) := by decide +kernel
theorem dL_law_617 : decode cL_law 617 = .ok (.iconst 0, 1) := by decide +kernel
theorem dL_law_618 : decode cL_law 618 = .ok (.ireturn, 1) := by decide +kernel
theorem dL_law_619 : decode cL_law 619 = .ok (.aload_n 1, 1) := by decide +kernel
theorem dL_law_620 : decode cL_law 620 = .ok (.invokevirtual 96, 3) := by decide +kernel
theorem dL_law_623 : decode cL_law 623 = .ok (.aload_n 2, 1) := by decide +kernel
theorem dL_law_624 : decode cL_law 624 = .ok (.invokevirtual 99, 3) := by decide +kernel
theorem dL_law_627 : decode cL_law 627 = .ok (.if_icmp .eq 28, 3) := by decide +kernel
theorem dL_law_630 : decode cL_law 630 = .ok (.iconst 0, 1) := by decide +kernel
theorem dL_law_631 : decode cL_law 631 = .ok (.ireturn, 1) := by decide +kernel
theorem dL_law_632 : decode cL_law 632 = .ok (.aload_n 1, 1) := by decide +kernel
theorem dL_law_633 : decode cL_law 633 = .ok (.aload_n 0, 1) := by decide +kernel
theorem dL_law_634 : decode cL_law 634 = .ok (.iload_n 3, 1) := by decide +kernel
theorem dL_law_635 : decode cL_law 635 = .ok (.iconst 1, 1) := by decide +kernel
theorem dL_law_636 : decode cL_law 636 = .ok (.iadd, 1) := by decide +kernel
theorem dL_law_637 : decode cL_law 637 = .ok (.iaload, 1) := by decide +kernel
theorem dL_law_638 : decode cL_law 638 = .ok (.invokevirtual 100, 3) := by decide +kernel
theorem dL_law_641 : decode cL_law 641 = .ok (.aload_n 2, 1) := by decide +kernel
theorem dL_law_642 : decode cL_law 642 = .ok (.aload_n 0, 1) := by decide +kernel
theorem dL_law_643 : decode cL_law 643 = .ok (.iload_n 3, 1) := by decide +kernel
theorem dL_law_644 : decode cL_law 644 = .ok (.iconst 1, 1) := by decide +kernel
theorem dL_law_645 : decode cL_law 645 = .ok (.iadd, 1) := by decide +kernel
theorem dL_law_646 : decode cL_law 646 = .ok (.iaload, 1) := by decide +kernel
theorem dL_law_647 : decode cL_law 647 = .ok (.invokevirtual 103, 3) := by decide +kernel
theorem dL_law_650 : decode cL_law 650 = .ok (.if_icmp .eq 5, 3) := by decide +kernel
theorem dL_law_653 : decode cL_law 653 = .ok (.iconst 0, 1) := by decide +kernel
theorem dL_law_654 : decode cL_law 654 = .ok (.ireturn, 1) := by decide +kernel
theorem dL_law_655 : decode cL_law 655 = .ok (.iinc 3 6, 3) := by decide +kernel
theorem dL_law_658 : decode cL_law 658 = .ok (.goto (-630), 3) := by decide +kernel
theorem dL_law_661 : decode cL_law 661 = .ok (.iconst 1, 1) := by decide +kernel
theorem dL_law_662 : decode cL_law 662 = .ok (.ireturn, 1) := by decide +kernel
end
section
/-! ===== THE HEAP AS MAPS: (field number, address) to an int or a reference; (array, place) likewise; the next address. A field's number is 64 * its class's number in vwCl + its place in the table ===== -/
abbrev Hp : Type := (Nat → Nat → Int32) × (Nat → Nat → Option Nat) × (Nat → Nat → Int32) × (Nat → Nat → Option Nat) × Nat
abbrev hn (h : Hp) : Nat := h.2.2.2.2
def sI (h : Hp) (f a : Nat) (v : Int32) : Hp := (fun g b => if g = f ∧ b = a then v else h.1 g b, h.2)
def sR (h : Hp) (f a : Nat) (v : Option Nat) : Hp := (h.1, fun g b => if g = f ∧ b = a then v else h.2.1 g b, h.2.2)
def sA (h : Hp) (a i : Nat) (v : Int32) : Hp := (h.1, h.2.1, fun b j => if b = a ∧ j = i then v else h.2.2.1 b j, h.2.2.2)
def sQ (h : Hp) (a i : Nat) (v : Option Nat) : Hp := (h.1, h.2.1, h.2.2.1, fun b j => if b = a ∧ j = i then v else h.2.2.2.1 b j, h.2.2.2.2)
/-- a new cell at the next address, all of it 0 and null -/
def sN (h : Hp) : Hp := (fun g b => if b = hn h then 0 else h.1 g b, fun g b => if b = hn h then none else h.2.1 g b, fun b j => if b = hn h then 0 else h.2.2.1 b j, fun b j => if b = hn h then none else h.2.2.2.1 b j, hn h + 1)
def isRf (ci k : Nat) : Bool := match ci with
  | 1 => k == 0
  | 4 => k == 0
  | 5 => k == 1 || k == 2 || k == 3 || k == 4 || k == 11
  | 7 => k == 0 || k == 1 || k == 2
  | 8 => (Nat.ble 7 k && Nat.ble k 30) || Nat.ble 32 k
  | _ => false
def nfl (ci : Nat) : Nat := match ci with
  | 0 => 6 | 1 => 2 | 2 => 4 | 3 => 5 | 4 => 2 | 5 => 20 | 6 => 3 | 7 => 9 | _ => 41
def tyF (ci : Nat) : Nat → FieldType := match ci with
  | 0 => tyX0 | 1 => tyX1 | 2 => tyX2 | 3 => tyX3 | 4 => tyX4 | 5 => tyX5 | 6 => tyX6 | 7 => tyX7 | _ => tyX8
def fv (h : Hp) (ci a k : Nat) : Value := if isRf ci k = true then va_rf (h.2.1 (64 * ci + k) a) else .int (h.1 (64 * ci + k) a)
def flds (h : Hp) (ci a : Nat) : List Value := (List.range (nfl ci)).map (fv h ci a)
/-! the setting: launch, the tables' numbers, the array classes by kind, the first address, the kind and the length of every cell, the script -/
abbrev Ev : Type := Launch × va_G × (Nat → ClassId) × Nat × (Nat → Nat) × (Nat → Nat) × Nat × Nat × (Nat → Int32)
abbrev eL (E : Ev) : Launch := E.1
abbrev eD (E : Ev) : va_G := E.2.1
abbrev eC (E : Ev) : Nat → ClassId := E.2.2.1
abbrev eB (E : Ev) : Nat := E.2.2.2.1
abbrev eK (E : Ev) : Nat → Nat := E.2.2.2.2.1
abbrev eN (E : Ev) : Nat → Nat := E.2.2.2.2.2.1
abbrev eS (E : Ev) : Nat := E.2.2.2.2.2.2.1
abbrev eZ (E : Ev) : Nat := E.2.2.2.2.2.2.2.1
abbrev eX (E : Ev) : Nat → Int32 := E.2.2.2.2.2.2.2.2
def ent (E : Ev) (h : Hp) (a : Nat) : va_E :=
  if eK E a < 9 then .inr (eK E a, flds h (eK E a) a)
  else if eK E a < 11 then .inl (eC E (eK E a), eN E a, .inl (h.2.2.1 a))
  else .inl (eC E (eK E a), eN E a, .inr (.inr (.inr (.inr (h.2.2.2.1 a)))))
def pl (E : Ev) (h : Hp) : va_W := va_pl (List.range' (eB E) (hn h - eB E)) (ent E h)
def tysL (E : Ev) : List (ClassId × FieldType) := [(eC E 9, .int), (eC E 10, .boolean), (eC E 11, .object RX0), (eC E 12, .object RX1), (eC E 13, .object RX2), (eC E 14, .object RX5)]
def lw_good : List Cond := lw_tbl.filter goodWord
def KK (E : Ev) (s : State) : Prop := va_K (eD E) vwCl (tysL E) s ∧ (va_AO RX0 s ∧ va_AO RX1 s ∧ va_AO RX2 s ∧ va_AO RX5 s) ∧ (∀ w ∈ lw_tbl, (∃ a i x b, w = Cond.methodLinkNest a i x b) → va_Nw w s)
def HH (E : Ev) (s : State) (h : Hp) (H : Heap) : Prop := va_P (eD E) vwCl (pl E h) H ∧ eB E ≤ hn h ∧ H.size = hn h ∧ eS E < eB E ∧ va_X (eS E) (eZ E) (eX E) s H
def eA (E : Ev) : Nat → Prop := fun q => eB E ≤ q
/-- an object (or array) of a kind at an address that is in use -/
def Ob (E : Ev) (h : Hp) (ci a : Nat) : Prop := eK E a = ci ∧ eB E ≤ a ∧ a < hn h
/-! a method: its class, name, bytes, locals, answer -/
abbrev MD : Type := String × MethodName × ByteArray × Nat × Option FieldType
def WS (M : MD) : List Cond := Cond.code M.2.1 M.2.2.1 M.2.2.2.1 M.2.2.2.2 :: lw_good
def QQ (E : Ev) (Post : Option Value → Hp → Prop) : Array Value → State → Outcome → State → Prop := fun _ s o t => ∃ (v : Option Value) (h' : Hp), o = .returned v ∧ Post v h' ∧ KK E t ∧ HH E t h' t.heap ∧ va_F (eA E) s t
def Cn (E : Ev) (M : MD) (R : Room) (h : Hp) (args : List Value) (Post : Option Value → Hp → Prop) : Prop :=
  Met (eL E) M.2.1 (WS M) R (va_Pc args (fun U => KK E U ∧ eB E ≤ U.heap.size ∧ HH E U h U.heap)) (QQ E Post) R.cells R.slots (eA E)
def CX (E : Ev) (M : MD) (p : Program) (s : State) (m : MethodId) (args : Array Value) (meth : Method) (c : Code) : Prop :=
  p.tables.exec = Jvm.exec ∧ c.code = M.2.2.1 ∧ c.maxLocals = M.2.2.2.1 ∧ s.vm.findClass M.1 = some m.cls ∧ (∀ w ∈ WS M, w.before args s = true) ∧ meth.sig.returnType = M.2.2.2.2 ∧ meth.locks = false ∧ meth.name = M.2.1.name ∧ KK E s ∧ eB E ≤ s.heap.size
def LH (ls : Array Slot) (nL : Nat) (L : List (Option Value)) : Prop := ls.size = nL ∧ lv_wf ls ∧ ∀ (k : Nat) (v : Value), L[k]? = some (some v) → ls[k]? = some (.val v) ∧ v.category = 1
def G (E : Ev) (M : MD) (R : Room) (Post : Option Value → Hp → Prop) (pc : Nat) (L : List (Option Value)) (st : List Value) (h : Hp) (ac as : Nat) : Prop :=
  ∀ (p : Program) (e : Env) (s : State) (m : MethodId) (args : Array Value) (below : List Frame) (meth : Method) (c : Code) (H : Heap) (locs : List Loc) (cells slots : Nat) (ls : Array Slot),
    CX E M p s m args meth c → HH E s h H → va_S (eA E) s.heap H locs → LH ls M.2.2.2.1 L → cells + ac = R.cells → slots + as = R.slots →
    W p (eL E) e R s m args below meth c H locs cells slots (MQ below (QQ E Post) args s R.cells R.slots (eA E)) (F0 m pc ls st)
/-! ===== locals ===== -/
def asL (L : List (Option Value)) : List (Nat × Value) := (List.range L.length).filterMap (fun k => (L[k]?.join).map (fun v => (k, v)))
theorem mem_asL {L : List (Option Value)} {k : Nat} {v : Value} : (k, v) ∈ asL L ↔ L[k]? = some (some v) := by
  unfold asL
  rw [List.mem_filterMap]
  constructor
  · rintro ⟨j, -, h⟩
    cases hj : L[j]? with
    | none => rw [hj] at h; cases h
    | some o =>
      cases o with
      | none => rw [hj] at h; cases h
      | some x =>
        rw [hj] at h
        simp at h
        obtain ⟨rfl, rfl⟩ := h
        exact hj
  · intro h
    refine ⟨k, List.mem_range.mpr (List.getElem?_eq_some_iff.mp h).1, ?_⟩
    rw [h]
    rfl
theorem LH.has {ls : Array Slot} {nL : Nat} {L : List (Option Value)} (h : LH ls nL L) : lv_has ls nL (asL L) := ⟨h.1, h.2.1, fun q hq => (h.2.2 q.1 q.2 (mem_asL.mp hq)).1⟩
theorem LH.at {ls : Array Slot} {nL : Nat} {L : List (Option Value)} (h : LH ls nL L) {k : Nat} {v : Value} (hk : L[k]? = some (some v)) : ls[k]? = some (.val v) := (h.2.2 k v hk).1
theorem LH.set {ls ls' : Array Slot} {nL i : Nat} {L : List (Option Value)} {x : Value} (h : LH ls nL L) (hx : x.category = 1) (h' : lv_has ls' nL ((i, x) :: (asL L).filter (fun q => !(q.1 == i) && !(q.1 + 1 == i && q.2.category == 2)))) : LH ls' nL (L.set i (some x)) := by
  refine ⟨h'.1, h'.2.1, fun k v hk => ?_⟩
  by_cases hki : k = i
  · subst hki
    have hlt : k < L.length := by
      have := (List.getElem?_eq_some_iff.mp hk).1
      rwa [List.length_set] at this
    rw [List.getElem?_set_self hlt] at hk
    obtain rfl : x = v := by simpa using hk
    exact ⟨h'.2.2 (k, x) List.mem_cons_self, hx⟩
  · rw [List.getElem?_set_ne (Ne.symm hki)] at hk
    have hc := (h.2.2 k v hk).2
    refine ⟨h'.2.2 (k, v) (List.mem_cons_of_mem _ (List.mem_filter.mpr ⟨mem_asL.mpr hk, ?_⟩)), hc⟩
    simp [hki, hc]
theorem lvargs_mem : ∀ (vs : List Value) (i : Nat), (∀ v ∈ vs, v.category = 1) → ∀ (j : Nat) (v : Value), vs[j]? = some v → (i + j, v) ∈ lv_args i vs := by
  intro vs
  induction vs with
  | nil => intro i _ j v h; simp at h
  | cons a l ih =>
    intro i hc j v h
    have ha : a.category = 1 := hc a List.mem_cons_self
    unfold lv_args
    cases j with
    | zero => simp at h; subst h; exact List.mem_cons_self
    | succ j =>
      simp at h
      refine List.mem_cons_of_mem _ ?_
      rw [if_neg (by omega)]
      have := ih (i + 1) (fun v hv => hc v (List.mem_cons_of_mem _ hv)) j v h
      rwa [show i + 1 + j = i + (j + 1) by omega] at this
theorem lgsl_len : ∀ (vs : List Value), (∀ v ∈ vs, v.category = 1) → (lg_sl vs).length = vs.length := by
  intro vs
  induction vs with
  | nil => intro _; rfl
  | cons a l ih =>
    intro hc
    have ha : a.category = 1 := hc a List.mem_cons_self
    have h2 := ih (fun v hv => hc v (List.mem_cons_of_mem _ hv))
    unfold lg_sl at h2 ⊢
    rw [List.flatMap_cons, if_neg (by omega), List.length_append, h2]
    simp [Nat.add_comm]
theorem LH.entry {vs : List Value} {n : Nat} (hc : ∀ v ∈ vs, v.category = 1) (hn : vs.length ≤ n) : LH ((lg_sl vs ++ List.replicate (n - (lg_sl vs).length) Slot.unset).toArray) n (vs.map some ++ List.replicate (n - vs.length) none) := by
  have h := lv_entry vs (n := n) (by rw [lgsl_len vs hc]; exact hn)
  refine ⟨h.1, h.2.1, fun k v hk => ?_⟩
  by_cases hl : k < vs.length
  · rw [List.getElem?_append_left (by rw [List.length_map]; exact hl), List.getElem?_map] at hk
    cases hv : vs[k]? with
    | none => rw [hv] at hk; cases hk
    | some x =>
      rw [hv] at hk
      simp at hk
      subst hk
      have := lvargs_mem vs 0 hc k x hv
      rw [Nat.zero_add] at this
      exact ⟨h.2.2 _ this, hc x (List.mem_of_getElem? hv)⟩
  · rw [List.getElem?_append_right (by rw [List.length_map]; omega)] at hk
    have := List.mem_of_getElem? hk
    simp at this
/-! ===== a contract out of a walk ===== -/
theorem KK.moved {E : Ev} {u U : State} (hW : u.WarmedH U.vm) (h : KK E u) : KK E U := by
  obtain ⟨h1, ⟨a1, a2, a3, a4⟩, h3⟩ := h
  refine ⟨va_K.moved hW.alike h1, ⟨a1.moved hW.alike, a2.moved hW.alike, a3.moved hW.alike, a4.moved hW.alike⟩, fun w hw hx => ?_⟩
  have := h3 w hw hx
  obtain ⟨a, i, x, b, rfl⟩ := hx
  exact va_Nw.warmM hW this
theorem KK.same {E : Ev} {u U : State} (hvm : u.vm = U.vm) (h : KK E u) : KK E U := by
  obtain ⟨h1, ⟨a1, a2, a3, a4⟩, h3⟩ := h
  have hal : u.vm.Alike U.vm := by rw [hvm]; exact Vm.Alike.refl _
  refine ⟨va_K.moved hal h1, ⟨a1.moved hal, a2.moved hal, a3.moved hal, a4.moved hal⟩, fun w hw hx => ?_⟩
  have := h3 w hw hx
  obtain ⟨a, i, x, b, rfl⟩ := hx
  exact va_Nw.same rfl hvm this
theorem HH.moved {E : Ev} {u U : State} {h : Hp} {H : Heap} (hal : u.vm.Alike U.vm) (hh : HH E u h H) : HH E U h H := ⟨hh.1, hh.2.1, hh.2.2.1, hh.2.2.2.1, hh.2.2.2.2.moved hal⟩
set_option maxHeartbeats 1000000 in
theorem Cn_of {E : Ev} {M : MD} {R : Room} {h : Hp} {args : List Value} {Post : Option Value → Hp → Prop} (hy : plainName M.2.1.cls = true) (hown : M.2.1.cls = M.1) (hc : ∀ v ∈ args, v.category = 1) (hlen : args.length ≤ M.2.2.2.1)
    (g : G E M R Post 0 (args.map some ++ List.replicate (M.2.2.2.1 - args.length) none) [] h R.cells R.slots) : Cn E M R h args Post := by
  refine Met.ofW (cc := M.2.2.1) (maxL := M.2.2.2.1) (ret := M.2.2.2.2) (ws' := lw_good) hy rfl ?_
  intro p e s m args' below meth c s₁ Bd hml hv
  obtain ⟨rfl, hKK, hB, hHH⟩ := hv
  have hfc : s.vm.findClass M.1 = some m.cls := by rw [← hown]; exact findClass_of_methodNamed Bd.named
  rw [lg_entry_eq]
  exact g p e s m args.toArray below meth c s.heap [] 0 0 _ ⟨Bd.exec, Bd.bytes, hml, hfc, atoms_spec (ws := WS M) Bd.pre, Bd.returns, Bd.notSynchronized, (name_of_methodNamed Bd.named Bd.method).1, hKK, hB⟩ hHH va_S.rf (LH.entry hc hlen) (Nat.zero_add _) (Nat.zero_add _)
end
section
section RULES
variable {E : Ev} {M : MD} {R : Room} {Post : Option Value → Hp → Prop} {pc : Nat} {L : List (Option Value)} {st : List Value} {h : Hp} {ac as : Nat}
/-! ===== numbers, locals, the stack ===== -/
theorem G_iconst (pc' : Nat) (hp : pc + 1 = pc') {n : Int} (v : Int32) (hv : Int32.ofInt n = v) (hd : decode M.2.2.1 pc = .ok (.iconst n, 1)) (k : G E M R Post pc' L (.int v :: st) h ac as) : G E M R Post pc L st h ac as := by
  subst hp
  intro p e s m args below meth c H locs cells slots ls C hH hS hL h1 h2
  exact lv_iconst C.1 C.2.1 hd hv (k p e s m args below meth c H locs cells slots ls C hH hS hL h1 h2)
theorem G_bipush (pc' : Nat) (hp : pc + 2 = pc') {n : Int} (v : Int32) (hv : (Int8.ofInt n).toInt32 = v) (hd : decode M.2.2.1 pc = .ok (.bipush n, 2)) (k : G E M R Post pc' L (.int v :: st) h ac as) : G E M R Post pc L st h ac as := by
  subst hp
  intro p e s m args below meth c H locs cells slots ls C hH hS hL h1 h2
  exact lv_bipush C.1 C.2.1 hd hv (k p e s m args below meth c H locs cells slots ls C hH hS hL h1 h2)
theorem G_sipush (pc' : Nat) (hp : pc + 3 = pc') {n : Int} (v : Int32) (hv : (Int16.ofInt n).toInt32 = v) (hd : decode M.2.2.1 pc = .ok (.sipush n, 3)) (k : G E M R Post pc' L (.int v :: st) h ac as) : G E M R Post pc L st h ac as := by
  subst hp
  intro p e s m args below meth c H locs cells slots ls C hH hS hL h1 h2
  exact lv_sipush C.1 C.2.1 hd hv (k p e s m args below meth c H locs cells slots ls C hH hS hL h1 h2)
theorem G_ldc (pc' : Nat) (hp : pc + 2 = pc') {idx : Nat} {v : Int32} (hw : Cond.constant M.1 idx v ∈ lw_good) (hd : decode M.2.2.1 pc = .ok (.ldc idx, 2)) (k : G E M R Post pc' L (.int v :: st) h ac as) : G E M R Post pc L st h ac as := by
  subst hp
  intro p e s m args below meth c H locs cells slots ls C hH hS hL h1 h2
  exact lv_ldc C.1 C.2.1 C.2.2.2.1 (C.2.2.2.2.1 _ (List.mem_cons_of_mem _ hw)) hd (k p e s m args below meth c H locs cells slots ls C hH hS hL h1 h2)
theorem G_null (pc' : Nat) (hp : pc + 1 = pc') (hd : decode M.2.2.1 pc = .ok (.aconst_null, 1)) (k : G E M R Post pc' L (.null :: st) h ac as) : G E M R Post pc L st h ac as := by
  subst hp
  intro p e s m args below meth c H locs cells slots ls C hH hS hL h1 h2
  exact lv_null C.1 C.2.1 hd (k p e s m args below meth c H locs cells slots ls C hH hS hL h1 h2)
theorem G_iload_n (pc' : Nat) (hp : pc + 1 = pc') {k0 : Fin 4} {x : Int32} (hl : L[(k0 : Nat)]? = some (some (.int x))) (hd : decode M.2.2.1 pc = .ok (.iload_n k0, 1)) (k : G E M R Post pc' L (.int x :: st) h ac as) : G E M R Post pc L st h ac as := by
  subst hp
  intro p e s m args below meth c H locs cells slots ls C hH hS hL h1 h2
  exact lv_iload_n C.1 C.2.1 hd rfl (hL.at hl) (k p e s m args below meth c H locs cells slots ls C hH hS hL h1 h2)
theorem G_iload (pc' : Nat) (hp : pc + 2 = pc') {i : Nat} {x : Int32} (hl : L[i]? = some (some (.int x))) (hd : decode M.2.2.1 pc = .ok (.iload i, 2)) (k : G E M R Post pc' L (.int x :: st) h ac as) : G E M R Post pc L st h ac as := by
  subst hp
  intro p e s m args below meth c H locs cells slots ls C hH hS hL h1 h2
  exact lv_iload C.1 C.2.1 hd (hL.at hl) (k p e s m args below meth c H locs cells slots ls C hH hS hL h1 h2)
theorem G_aload_n (pc' : Nat) (hp : pc + 1 = pc') {k0 : Fin 4} {x : Nat} (hl : L[(k0 : Nat)]? = some (some (.ref x))) (hd : decode M.2.2.1 pc = .ok (.aload_n k0, 1)) (k : G E M R Post pc' L (.ref x :: st) h ac as) : G E M R Post pc L st h ac as := by
  subst hp
  intro p e s m args below meth c H locs cells slots ls C hH hS hL h1 h2
  exact lv_aload_n C.1 C.2.1 hd rfl (hL.at hl) (k p e s m args below meth c H locs cells slots ls C hH hS hL h1 h2)
theorem G_aload (pc' : Nat) (hp : pc + 2 = pc') {i : Nat} {x : Nat} (hl : L[i]? = some (some (.ref x))) (hd : decode M.2.2.1 pc = .ok (.aload i, 2)) (k : G E M R Post pc' L (.ref x :: st) h ac as) : G E M R Post pc L st h ac as := by
  subst hp
  intro p e s m args below meth c H locs cells slots ls C hH hS hL h1 h2
  exact lv_aload C.1 C.2.1 hd (hL.at hl) (k p e s m args below meth c H locs cells slots ls C hH hS hL h1 h2)
theorem G_aload_nN (pc' : Nat) (hp : pc + 1 = pc') {k0 : Fin 4} (hl : L[(k0 : Nat)]? = some (some .null)) (hd : decode M.2.2.1 pc = .ok (.aload_n k0, 1)) (k : G E M R Post pc' L (.null :: st) h ac as) : G E M R Post pc L st h ac as := by
  subst hp
  intro p e s m args below meth c H locs cells slots ls C hH hS hL h1 h2
  exact lv_aload_nN C.1 C.2.1 hd rfl (hL.at hl) (k p e s m args below meth c H locs cells slots ls C hH hS hL h1 h2)
theorem G_aloadN (pc' : Nat) (hp : pc + 2 = pc') {i : Nat} (hl : L[i]? = some (some .null)) (hd : decode M.2.2.1 pc = .ok (.aload i, 2)) (k : G E M R Post pc' L (.null :: st) h ac as) : G E M R Post pc L st h ac as := by
  subst hp
  intro p e s m args below meth c H locs cells slots ls C hH hS hL h1 h2
  exact lv_aloadN C.1 C.2.1 hd (hL.at hl) (k p e s m args below meth c H locs cells slots ls C hH hS hL h1 h2)
theorem G_istore_n (pc' : Nat) (hp : pc + 1 = pc') {k0 : Fin 4} {x : Int32} (hn : (k0 : Nat) < M.2.2.2.1) (hd : decode M.2.2.1 pc = .ok (.istore_n k0, 1)) (k : G E M R Post pc' (L.set (k0 : Nat) (some (.int x))) st h ac as) : G E M R Post pc L (.int x :: st) h ac as := by
  subst hp
  intro p e s m args below meth c H locs cells slots ls C hH hS hL h1 h2
  exact lv_istore_n C.1 C.2.1 hd rfl hL.has hn rfl (fun ls' hl' => k p e s m args below meth c H locs cells slots ls' C hH hS (hL.set rfl hl') h1 h2)
theorem G_istore (pc' : Nat) (hp : pc + 2 = pc') {i : Nat} {x : Int32} (hn : i < M.2.2.2.1) (hd : decode M.2.2.1 pc = .ok (.istore i, 2)) (k : G E M R Post pc' (L.set i (some (.int x))) st h ac as) : G E M R Post pc L (.int x :: st) h ac as := by
  subst hp
  intro p e s m args below meth c H locs cells slots ls C hH hS hL h1 h2
  exact lv_istore C.1 C.2.1 hd hL.has hn rfl (fun ls' hl' => k p e s m args below meth c H locs cells slots ls' C hH hS (hL.set rfl hl') h1 h2)
theorem G_astore_n (pc' : Nat) (hp : pc + 1 = pc') {k0 : Fin 4} {x : Nat} (hn : (k0 : Nat) < M.2.2.2.1) (hd : decode M.2.2.1 pc = .ok (.astore_n k0, 1)) (k : G E M R Post pc' (L.set (k0 : Nat) (some (.ref x))) st h ac as) : G E M R Post pc L (.ref x :: st) h ac as := by
  subst hp
  intro p e s m args below meth c H locs cells slots ls C hH hS hL h1 h2
  exact lv_astore_n C.1 C.2.1 hd rfl hL.has hn rfl (fun ls' hl' => k p e s m args below meth c H locs cells slots ls' C hH hS (hL.set rfl hl') h1 h2)
theorem G_astore (pc' : Nat) (hp : pc + 2 = pc') {i : Nat} {x : Nat} (hn : i < M.2.2.2.1) (hd : decode M.2.2.1 pc = .ok (.astore i, 2)) (k : G E M R Post pc' (L.set i (some (.ref x))) st h ac as) : G E M R Post pc L (.ref x :: st) h ac as := by
  subst hp
  intro p e s m args below meth c H locs cells slots ls C hH hS hL h1 h2
  exact lv_astore C.1 C.2.1 hd hL.has hn rfl (fun ls' hl' => k p e s m args below meth c H locs cells slots ls' C hH hS (hL.set rfl hl') h1 h2)
theorem G_astore_nN (pc' : Nat) (hp : pc + 1 = pc') {k0 : Fin 4} (hn : (k0 : Nat) < M.2.2.2.1) (hd : decode M.2.2.1 pc = .ok (.astore_n k0, 1)) (k : G E M R Post pc' (L.set (k0 : Nat) (some .null)) st h ac as) : G E M R Post pc L (.null :: st) h ac as := by
  subst hp
  intro p e s m args below meth c H locs cells slots ls C hH hS hL h1 h2
  exact lv_astore_nN C.1 C.2.1 hd rfl hL.has hn rfl (fun ls' hl' => k p e s m args below meth c H locs cells slots ls' C hH hS (hL.set rfl hl') h1 h2)
theorem G_astoreN (pc' : Nat) (hp : pc + 2 = pc') {i : Nat} (hn : i < M.2.2.2.1) (hd : decode M.2.2.1 pc = .ok (.astore i, 2)) (k : G E M R Post pc' (L.set i (some .null)) st h ac as) : G E M R Post pc L (.null :: st) h ac as := by
  subst hp
  intro p e s m args below meth c H locs cells slots ls C hH hS hL h1 h2
  exact lv_astoreN C.1 C.2.1 hd hL.has hn rfl (fun ls' hl' => k p e s m args below meth c H locs cells slots ls' C hH hS (hL.set rfl hl') h1 h2)
theorem G_iinc (pc' : Nat) (hp : pc + 3 = pc') {i : Nat} {n : Int} {x : Int32} (v : Int32) (hl : L[i]? = some (some (.int x))) (hv : x + Int32.ofInt n = v) (hn : i < M.2.2.2.1) (hd : decode M.2.2.1 pc = .ok (.iinc i n, 3)) (k : G E M R Post pc' (L.set i (some (.int v))) st h ac as) : G E M R Post pc L st h ac as := by
  subst hp
  intro p e s m args below meth c H locs cells slots ls C hH hS hL h1 h2
  obtain ⟨j, hj⟩ := List.getElem?_of_mem (mem_asL.mpr hl)
  exact lv_iinc C.1 C.2.1 hd hL.has hj hv hn rfl (fun ls' hl' => k p e s m args below meth c H locs cells slots ls' C hH hS (hL.set rfl hl') h1 h2)
theorem G_iadd (pc' : Nat) (hp : pc + 1 = pc') {x y : Int32} (hd : decode M.2.2.1 pc = .ok (.iadd, 1)) (k : G E M R Post pc' L (.int (x + y) :: st) h ac as) : G E M R Post pc L (.int y :: .int x :: st) h ac as := by
  subst hp
  intro p e s m args below meth c H locs cells slots ls C hH hS hL h1 h2
  exact lv_iadd C.1 C.2.1 hd (k p e s m args below meth c H locs cells slots ls C hH hS hL h1 h2)
theorem G_isub (pc' : Nat) (hp : pc + 1 = pc') {x y : Int32} (hd : decode M.2.2.1 pc = .ok (.isub, 1)) (k : G E M R Post pc' L (.int (x - y) :: st) h ac as) : G E M R Post pc L (.int y :: .int x :: st) h ac as := by
  subst hp
  intro p e s m args below meth c H locs cells slots ls C hH hS hL h1 h2
  exact lv_isub C.1 C.2.1 hd (k p e s m args below meth c H locs cells slots ls C hH hS hL h1 h2)
theorem G_imul (pc' : Nat) (hp : pc + 1 = pc') {x y : Int32} (hd : decode M.2.2.1 pc = .ok (.imul, 1)) (k : G E M R Post pc' L (.int (x * y) :: st) h ac as) : G E M R Post pc L (.int y :: .int x :: st) h ac as := by
  subst hp
  intro p e s m args below meth c H locs cells slots ls C hH hS hL h1 h2
  exact lv_imul C.1 C.2.1 hd (k p e s m args below meth c H locs cells slots ls C hH hS hL h1 h2)
theorem G_iand (pc' : Nat) (hp : pc + 1 = pc') {x y : Int32} (hd : decode M.2.2.1 pc = .ok (.iand, 1)) (k : G E M R Post pc' L (.int (x &&& y) :: st) h ac as) : G E M R Post pc L (.int y :: .int x :: st) h ac as := by
  subst hp
  intro p e s m args below meth c H locs cells slots ls C hH hS hL h1 h2
  exact lv_iand C.1 C.2.1 hd (k p e s m args below meth c H locs cells slots ls C hH hS hL h1 h2)
theorem G_irem (pc' : Nat) (hp : pc + 1 = pc') {x y : Int32} (hne : ¬ y = 0) (hd : decode M.2.2.1 pc = .ok (.irem, 1)) (k : G E M R Post pc' L (.int (x - x / y * y) :: st) h ac as) : G E M R Post pc L (.int y :: .int x :: st) h ac as := by
  subst hp
  intro p e s m args below meth c H locs cells slots ls C hH hS hL h1 h2
  exact lv_irem C.1 C.2.1 hd hne (k p e s m args below meth c H locs cells slots ls C hH hS hL h1 h2)
theorem G_iushr (pc' : Nat) (hp : pc + 1 = pc') {x y : Int32} (hd : decode M.2.2.1 pc = .ok (.iushr, 1)) (k : G E M R Post pc' L (.int (x.toUInt32 >>> (y.toUInt32 &&& Int32.toUInt32 31)).toInt32 :: st) h ac as) : G E M R Post pc L (.int y :: .int x :: st) h ac as := by
  subst hp
  intro p e s m args below meth c H locs cells slots ls C hH hS hL h1 h2
  exact lv_iushr C.1 C.2.1 hd rfl (k p e s m args below meth c H locs cells slots ls C hH hS hL h1 h2)
theorem G_dup (pc' : Nat) (hp : pc + 1 = pc') {x : Value} (hx : x.category = 1) (hd : decode M.2.2.1 pc = .ok (.dup, 1)) (k : G E M R Post pc' L (x :: x :: st) h ac as) : G E M R Post pc L (x :: st) h ac as := by
  subst hp
  intro p e s m args below meth c H locs cells slots ls C hH hS hL h1 h2
  exact lv_dup C.1 C.2.1 hd hx (k p e s m args below meth c H locs cells slots ls C hH hS hL h1 h2)
theorem G_dup2 (pc' : Nat) (hp : pc + 1 = pc') {x y : Value} (hx : x.category = 1) (hy : y.category = 1) (hd : decode M.2.2.1 pc = .ok (.dup2, 1)) (k : G E M R Post pc' L (x :: y :: x :: y :: st) h ac as) : G E M R Post pc L (x :: y :: st) h ac as := by
  subst hp
  intro p e s m args below meth c H locs cells slots ls C hH hS hL h1 h2
  exact lv_dup2_11 C.1 C.2.1 hd hx hy (k p e s m args below meth c H locs cells slots ls C hH hS hL h1 h2)
theorem G_goto (tgt : Nat) {off : Int} (ht : (pc : Int) + off = (tgt : Int)) (hd : decode M.2.2.1 pc = .ok (.goto off, 3)) (k : G E M R Post tgt L st h ac as) : G E M R Post pc L st h ac as := by
  intro p e s m args below meth c H locs cells slots ls C hH hS hL h1 h2
  exact lv_goto C.1 C.2.1 hd ht (k p e s m args below meth c H locs cells slots ls C hH hS hL h1 h2)
theorem G_if_eq (tgt pc' : Nat) (hp : pc + 3 = pc') {x : Int32} {off : Int} (ht : (pc : Int) + off = (tgt : Int)) (hd : decode M.2.2.1 pc = .ok (.ifCond .eq off, 3)) (kt : x = 0 → G E M R Post tgt L st h ac as) (kf : ¬ x = 0 → G E M R Post pc' L st h ac as) : G E M R Post pc L (.int x :: st) h ac as := by
  subst hp
  intro p e s m args below meth c H locs cells slots ls C hH hS hL h1 h2
  exact lv_if_eq C.1 C.2.1 hd ht (fun q => kt q p e s m args below meth c H locs cells slots ls C hH hS hL h1 h2) (fun q => kf q p e s m args below meth c H locs cells slots ls C hH hS hL h1 h2)
theorem G_icmp_eq (tgt pc' : Nat) (hp : pc + 3 = pc') {x y : Int32} {off : Int} (ht : (pc : Int) + off = (tgt : Int)) (hd : decode M.2.2.1 pc = .ok (.if_icmp .eq off, 3)) (kt : x = y → G E M R Post tgt L st h ac as) (kf : ¬ x = y → G E M R Post pc' L st h ac as) : G E M R Post pc L (.int y :: .int x :: st) h ac as := by
  subst hp
  intro p e s m args below meth c H locs cells slots ls C hH hS hL h1 h2
  exact lv_icmp_eq C.1 C.2.1 hd ht (fun q => kt q p e s m args below meth c H locs cells slots ls C hH hS hL h1 h2) (fun q => kf q p e s m args below meth c H locs cells slots ls C hH hS hL h1 h2)
theorem G_if_ne (tgt pc' : Nat) (hp : pc + 3 = pc') {x : Int32} {off : Int} (ht : (pc : Int) + off = (tgt : Int)) (hd : decode M.2.2.1 pc = .ok (.ifCond .ne off, 3)) (kt : ¬ x = 0 → G E M R Post tgt L st h ac as) (kf : x = 0 → G E M R Post pc' L st h ac as) : G E M R Post pc L (.int x :: st) h ac as := by
  subst hp
  intro p e s m args below meth c H locs cells slots ls C hH hS hL h1 h2
  exact lv_if_ne C.1 C.2.1 hd ht (fun q => kt q p e s m args below meth c H locs cells slots ls C hH hS hL h1 h2) (fun q => kf q p e s m args below meth c H locs cells slots ls C hH hS hL h1 h2)
theorem G_icmp_ne (tgt pc' : Nat) (hp : pc + 3 = pc') {x y : Int32} {off : Int} (ht : (pc : Int) + off = (tgt : Int)) (hd : decode M.2.2.1 pc = .ok (.if_icmp .ne off, 3)) (kt : ¬ x = y → G E M R Post tgt L st h ac as) (kf : x = y → G E M R Post pc' L st h ac as) : G E M R Post pc L (.int y :: .int x :: st) h ac as := by
  subst hp
  intro p e s m args below meth c H locs cells slots ls C hH hS hL h1 h2
  exact lv_icmp_ne C.1 C.2.1 hd ht (fun q => kt q p e s m args below meth c H locs cells slots ls C hH hS hL h1 h2) (fun q => kf q p e s m args below meth c H locs cells slots ls C hH hS hL h1 h2)
theorem G_if_lt (tgt pc' : Nat) (hp : pc + 3 = pc') {x : Int32} {off : Int} (ht : (pc : Int) + off = (tgt : Int)) (hd : decode M.2.2.1 pc = .ok (.ifCond .lt off, 3)) (kt : x < 0 → G E M R Post tgt L st h ac as) (kf : ¬ x < 0 → G E M R Post pc' L st h ac as) : G E M R Post pc L (.int x :: st) h ac as := by
  subst hp
  intro p e s m args below meth c H locs cells slots ls C hH hS hL h1 h2
  exact lv_if_lt C.1 C.2.1 hd ht (fun q => kt q p e s m args below meth c H locs cells slots ls C hH hS hL h1 h2) (fun q => kf q p e s m args below meth c H locs cells slots ls C hH hS hL h1 h2)
theorem G_icmp_lt (tgt pc' : Nat) (hp : pc + 3 = pc') {x y : Int32} {off : Int} (ht : (pc : Int) + off = (tgt : Int)) (hd : decode M.2.2.1 pc = .ok (.if_icmp .lt off, 3)) (kt : x < y → G E M R Post tgt L st h ac as) (kf : ¬ x < y → G E M R Post pc' L st h ac as) : G E M R Post pc L (.int y :: .int x :: st) h ac as := by
  subst hp
  intro p e s m args below meth c H locs cells slots ls C hH hS hL h1 h2
  exact lv_icmp_lt C.1 C.2.1 hd ht (fun q => kt q p e s m args below meth c H locs cells slots ls C hH hS hL h1 h2) (fun q => kf q p e s m args below meth c H locs cells slots ls C hH hS hL h1 h2)
theorem G_if_ge (tgt pc' : Nat) (hp : pc + 3 = pc') {x : Int32} {off : Int} (ht : (pc : Int) + off = (tgt : Int)) (hd : decode M.2.2.1 pc = .ok (.ifCond .ge off, 3)) (kt : 0 ≤ x → G E M R Post tgt L st h ac as) (kf : ¬ 0 ≤ x → G E M R Post pc' L st h ac as) : G E M R Post pc L (.int x :: st) h ac as := by
  subst hp
  intro p e s m args below meth c H locs cells slots ls C hH hS hL h1 h2
  exact lv_if_ge C.1 C.2.1 hd ht (fun q => kt q p e s m args below meth c H locs cells slots ls C hH hS hL h1 h2) (fun q => kf q p e s m args below meth c H locs cells slots ls C hH hS hL h1 h2)
theorem G_icmp_ge (tgt pc' : Nat) (hp : pc + 3 = pc') {x y : Int32} {off : Int} (ht : (pc : Int) + off = (tgt : Int)) (hd : decode M.2.2.1 pc = .ok (.if_icmp .ge off, 3)) (kt : y ≤ x → G E M R Post tgt L st h ac as) (kf : ¬ y ≤ x → G E M R Post pc' L st h ac as) : G E M R Post pc L (.int y :: .int x :: st) h ac as := by
  subst hp
  intro p e s m args below meth c H locs cells slots ls C hH hS hL h1 h2
  exact lv_icmp_ge C.1 C.2.1 hd ht (fun q => kt q p e s m args below meth c H locs cells slots ls C hH hS hL h1 h2) (fun q => kf q p e s m args below meth c H locs cells slots ls C hH hS hL h1 h2)
theorem G_if_gt (tgt pc' : Nat) (hp : pc + 3 = pc') {x : Int32} {off : Int} (ht : (pc : Int) + off = (tgt : Int)) (hd : decode M.2.2.1 pc = .ok (.ifCond .gt off, 3)) (kt : 0 < x → G E M R Post tgt L st h ac as) (kf : ¬ 0 < x → G E M R Post pc' L st h ac as) : G E M R Post pc L (.int x :: st) h ac as := by
  subst hp
  intro p e s m args below meth c H locs cells slots ls C hH hS hL h1 h2
  exact lv_if_gt C.1 C.2.1 hd ht (fun q => kt q p e s m args below meth c H locs cells slots ls C hH hS hL h1 h2) (fun q => kf q p e s m args below meth c H locs cells slots ls C hH hS hL h1 h2)
theorem G_icmp_gt (tgt pc' : Nat) (hp : pc + 3 = pc') {x y : Int32} {off : Int} (ht : (pc : Int) + off = (tgt : Int)) (hd : decode M.2.2.1 pc = .ok (.if_icmp .gt off, 3)) (kt : y < x → G E M R Post tgt L st h ac as) (kf : ¬ y < x → G E M R Post pc' L st h ac as) : G E M R Post pc L (.int y :: .int x :: st) h ac as := by
  subst hp
  intro p e s m args below meth c H locs cells slots ls C hH hS hL h1 h2
  exact lv_icmp_gt C.1 C.2.1 hd ht (fun q => kt q p e s m args below meth c H locs cells slots ls C hH hS hL h1 h2) (fun q => kf q p e s m args below meth c H locs cells slots ls C hH hS hL h1 h2)
theorem G_if_le (tgt pc' : Nat) (hp : pc + 3 = pc') {x : Int32} {off : Int} (ht : (pc : Int) + off = (tgt : Int)) (hd : decode M.2.2.1 pc = .ok (.ifCond .le off, 3)) (kt : x ≤ 0 → G E M R Post tgt L st h ac as) (kf : ¬ x ≤ 0 → G E M R Post pc' L st h ac as) : G E M R Post pc L (.int x :: st) h ac as := by
  subst hp
  intro p e s m args below meth c H locs cells slots ls C hH hS hL h1 h2
  exact lv_if_le C.1 C.2.1 hd ht (fun q => kt q p e s m args below meth c H locs cells slots ls C hH hS hL h1 h2) (fun q => kf q p e s m args below meth c H locs cells slots ls C hH hS hL h1 h2)
theorem G_icmp_le (tgt pc' : Nat) (hp : pc + 3 = pc') {x y : Int32} {off : Int} (ht : (pc : Int) + off = (tgt : Int)) (hd : decode M.2.2.1 pc = .ok (.if_icmp .le off, 3)) (kt : x ≤ y → G E M R Post tgt L st h ac as) (kf : ¬ x ≤ y → G E M R Post pc' L st h ac as) : G E M R Post pc L (.int y :: .int x :: st) h ac as := by
  subst hp
  intro p e s m args below meth c H locs cells slots ls C hH hS hL h1 h2
  exact lv_icmp_le C.1 C.2.1 hd ht (fun q => kt q p e s m args below meth c H locs cells slots ls C hH hS hL h1 h2) (fun q => kf q p e s m args below meth c H locs cells slots ls C hH hS hL h1 h2)
theorem G_ifnonnull (tgt : Nat) {x : Nat} {off : Int} (ht : (pc : Int) + off = (tgt : Int)) (hd : decode M.2.2.1 pc = .ok (.ifnonnull off, 3)) (k : G E M R Post tgt L st h ac as) : G E M R Post pc L (.ref x :: st) h ac as := by
  intro p e s m args below meth c H locs cells slots ls C hH hS hL h1 h2
  exact lv_ifnonnull C.1 C.2.1 hd ht (k p e s m args below meth c H locs cells slots ls C hH hS hL h1 h2)
theorem G_ifnonnullN (pc' : Nat) (hp : pc + 3 = pc') {off : Int} (hd : decode M.2.2.1 pc = .ok (.ifnonnull off, 3)) (k : G E M R Post pc' L st h ac as) : G E M R Post pc L (.null :: st) h ac as := by
  subst hp
  intro p e s m args below meth c H locs cells slots ls C hH hS hL h1 h2
  exact lv_ifnonnullN C.1 C.2.1 hd (k p e s m args below meth c H locs cells slots ls C hH hS hL h1 h2)
theorem G_ifnull (pc' : Nat) (hp : pc + 3 = pc') {x : Nat} {off : Int} (hd : decode M.2.2.1 pc = .ok (.ifnull off, 3)) (k : G E M R Post pc' L st h ac as) : G E M R Post pc L (.ref x :: st) h ac as := by
  subst hp
  intro p e s m args below meth c H locs cells slots ls C hH hS hL h1 h2
  exact lv_ifnull C.1 C.2.1 hd (k p e s m args below meth c H locs cells slots ls C hH hS hL h1 h2)
theorem G_ifnullN (tgt : Nat) {off : Int} (ht : (pc : Int) + off = (tgt : Int)) (hd : decode M.2.2.1 pc = .ok (.ifnull off, 3)) (k : G E M R Post tgt L st h ac as) : G E M R Post pc L (.null :: st) h ac as := by
  intro p e s m args below meth c H locs cells slots ls C hH hS hL h1 h2
  exact lv_ifnullN C.1 C.2.1 hd ht (k p e s m args below meth c H locs cells slots ls C hH hS hL h1 h2)
theorem G_acmp_ne (tgt pc' : Nat) (hp : pc + 3 = pc') {x y : Nat} {off : Int} (ht : (pc : Int) + off = (tgt : Int)) (hd : decode M.2.2.1 pc = .ok (.if_acmp .ne off, 3)) (kt : ¬ x = y → G E M R Post tgt L st h ac as) (kf : x = y → G E M R Post pc' L st h ac as) : G E M R Post pc L (.ref y :: .ref x :: st) h ac as := by
  subst hp
  intro p e s m args below meth c H locs cells slots ls C hH hS hL h1 h2
  exact lv_acmp_ne (rx := some x) (ry := some y) C.1 C.2.1 hd ht (fun q => kt (fun z => q (congrArg some z)) p e s m args below meth c H locs cells slots ls C hH hS hL h1 h2) (fun q => kf (Option.some.inj q) p e s m args below meth c H locs cells slots ls C hH hS hL h1 h2)
theorem G_lookup (tgt : Nat) {dflt : Int} {ps : Array (Int × Int)} {len : Nat} {x : Int32} {off : Int} (hd : decode M.2.2.1 pc = .ok (.lookupswitch dflt ps, len)) (hp : (ps.toList.zip (ps.toList.drop 1)).all (fun (a, next) => a.1 < next.1) = true) (ho : Op.lookupswitch.offset ps.toList dflt x.toInt = off) (ht : (pc : Int) + off = (tgt : Int)) (k : G E M R Post tgt L st h ac as) : G E M R Post pc L (.int x :: st) h ac as := by
  intro p e s m args below meth c H locs cells slots ls C hH hS hL h1 h2
  exact lv_lookup C.1 C.2.1 hd hp ho ht (k p e s m args below meth c H locs cells slots ls C hH hS hL h1 h2)
theorem G_tableOut (tgt : Nat) {dflt lo hi : Int} {offs : Array Int} {len : Nat} {x : Int32} (hd : decode M.2.2.1 pc = .ok (.tableswitch dflt lo hi offs, len)) (hx : x.toInt < lo ∨ hi < x.toInt) (ht : (pc : Int) + dflt = (tgt : Int)) (k : G E M R Post tgt L st h ac as) : G E M R Post pc L (.int x :: st) h ac as := by
  intro p e s m args below meth c H locs cells slots ls C hH hS hL h1 h2
  exact lv_tableOut C.1 C.2.1 hd hx ht (k p e s m args below meth c H locs cells slots ls C hH hS hL h1 h2)
theorem G_tableIn (tgt : Nat) {dflt lo hi : Int} {offs : Array Int} {len : Nat} {x : Int32} {off : Int} (hd : decode M.2.2.1 pc = .ok (.tableswitch dflt lo hi offs, len)) (h1 : ¬ x.toInt < lo) (h2 : ¬ hi < x.toInt) (ho : offs[(x.toInt - lo).toNat]? = some off) (ht : (pc : Int) + off = (tgt : Int)) (k : G E M R Post tgt L st h ac as) : G E M R Post pc L (.int x :: st) h ac as := by
  intro p e s m args below meth c H locs cells slots ls C hH hS hL hh1 hh2
  exact lv_tableIn C.1 C.2.1 hd h1 h2 ho ht (k p e s m args below meth c H locs cells slots ls C hH hS hL hh1 hh2)
/-! ===== the end ===== -/
theorem QQ_end {s t : State} {H : Heap} {locs : List Loc} {v : Option Value} (hKK : KK E s) (hH : HH E s h H) (hS : va_S (eA E) s.heap H locs) (hP : Post v h) (ht : t.heap = H) (hW : s.WarmedH t.vm) {args : Array Value} : QQ E Post args s (.returned v) t :=
  ⟨v, h, rfl, hP, hKK.moved hW, by rw [ht]; exact hH.moved hW.alike, hS.F ht⟩
theorem G_iret {x : Int32} {ty : FieldType} (hr : M.2.2.2.2 = some ty) (hn : narrow ty (.int x) = .int x) (hP : Post (some (.int x)) h) (hd : decode M.2.2.1 pc = .ok (.ireturn, 1)) : G E M R Post pc L [.int x] h ac as := by
  intro p e s m args below meth c H locs cells slots ls C hH hS hL h1 h2
  refine W.widen (k := R.cells) (n := R.slots) (by omega) (by omega) ?_
  exact W.zret C.1 C.2.1 (C.2.2.2.2.2.1.trans hr) hn (fun t ht hW => QQ_end C.2.2.2.2.2.2.2.2.1 hH hS hP ht hW) hS.2.2 hd C.2.2.2.2.2.2.1
theorem G_ret (hr : M.2.2.2.2 = none) (hP : Post none h) (hd : decode M.2.2.1 pc = .ok (.return_, 1)) : G E M R Post pc L [] h ac as := by
  intro p e s m args below meth c H locs cells slots ls C hH hS hL h1 h2
  refine W.widen (k := R.cells) (n := R.slots) (by omega) (by omega) ?_
  exact W.vret C.1 C.2.1 (C.2.2.2.2.2.1.trans hr) (fun t ht hW => QQ_end C.2.2.2.2.2.2.2.2.1 hH hS hP ht hW) hS.2.2 hd C.2.2.2.2.2.2.1
theorem G_aret {x : Value} {nm : String} (hr : M.2.2.2.2 = some (.object nm)) (hx : x = .null ∨ ∃ a, x = .ref a) (hP : Post (some x) h) (hd : decode M.2.2.1 pc = .ok (.areturn, 1)) : G E M R Post pc L [x] h ac as := by
  intro p e s m args below meth c H locs cells slots ls C hH hS hL h1 h2
  refine W.widen (k := R.cells) (n := R.slots) (by omega) (by omega) ?_
  exact W.aret C.1 C.2.1 (C.2.2.2.2.2.1.trans hr) (Or.inl ⟨nm, rfl⟩) hx (fun t ht hW => QQ_end C.2.2.2.2.2.2.2.2.1 hH hS hP ht hW) hS.2.2 hd C.2.2.2.2.2.2.1
end RULES
end
section
/-! ===== class tables ===== -/
def cT (ci : Nat) : vw_C := match ci with
  | 0 => (RX0, TX0, 6) | 1 => (RX1, TX1, 2) | 2 => (RX2, TX2, 4) | 3 => (RX3, TX3, 5) | 4 => (RX4, TX4, 2) | 5 => (RX5, TX5, 20) | 6 => (RX6, TX6, 3) | 7 => (RX7, TX7, 9) | _ => (RX8, TX8, 41)
theorem nine {P : Nat → Prop} (h0 : P 0) (h1 : P 1) (h2 : P 2) (h3 : P 3) (h4 : P 4) (h5 : P 5) (h6 : P 6) (h7 : P 7) (h8 : P 8) : ∀ ci, ci < 9 → P ci
  | 0, _ => h0 | 1, _ => h1 | 2, _ => h2 | 3, _ => h3 | 4, _ => h4 | 5, _ => h5 | 6, _ => h6 | 7, _ => h7 | 8, _ => h8
  | n + 9, h => absurd h (by omega)
theorem cT_at : ∀ ci, ci < 9 → vwCl[ci]? = some (cT ci) := nine rfl rfl rfl rfl rfl rfl rfl rfl rfl
theorem cT_n : ∀ ci, ci < 9 → (cT ci).2.2 = nfl ci := nine rfl rfl rfl rfl rfl rfl rfl rfl rfl
theorem cT_w : ∀ ci, ci < 9 → ∀ w ∈ u_ws (cT ci).1 (cT ci).2.1 (cT ci).2.2, w ∈ lw_good := nine (by decide +kernel) (by decide +kernel) (by decide +kernel) (by decide +kernel) (by decide +kernel) (by decide +kernel) (by decide +kernel) (by decide +kernel) (by decide +kernel)
theorem cT_ty : ∀ ci, ci < 9 → ∀ k, k < (cT ci).2.2 → parseFieldDescriptor ((cT ci).2.1 k).2.2.1 = some (tyF ci k) := nine tyX0_ok tyX1_ok tyX2_ok tyX3_ok tyX4_ok tyX5_ok tyX6_ok tyX7_ok tyX8_ok
theorem cT_nm : ∀ ci, ci < 9 → ∀ a, a < (cT ci).2.2 → ∀ b, b < (cT ci).2.2 → a ≠ b → ((cT ci).2.1 a).2.1 ≠ ((cT ci).2.1 b).2.1 := nine nmX0 nmX1 nmX2 nmX3 nmX4 nmX5 nmX6 nmX7 nmX8
def FL (own : String) (idx ci k : Nat) : Prop := ci < 9 ∧ k < nfl ci ∧ Cond.fieldLink own idx ((cT ci).2.1 k).1 ((cT ci).2.1 k).2.1 ((cT ci).2.1 k).2.2.1 ∈ lw_good
/-! ===== cells and maps ===== -/
theorem flds_at {h : Hp} {ci a k : Nat} (hk : k < nfl ci) : (flds h ci a)[k]? = some (fv h ci a k) := by
  unfold flds
  rw [List.getElem?_map, List.getElem?_range hk]
  rfl
theorem flds_len {h : Hp} {ci a : Nat} : (flds h ci a).length = nfl ci := by unfold flds; rw [List.length_map, List.length_range]
theorem flds_set {h h' : Hp} {ci a k : Nat} {v : Value} (hk : k < nfl ci) (h1 : fv h' ci a k = v) (h2 : ∀ j, j ≠ k → fv h' ci a j = fv h ci a j) : flds h' ci a = (flds h ci a).set k v := by
  apply List.ext_getElem?
  intro j
  by_cases hj : j = k
  · subst hj
    rw [List.getElem?_set_self (by rw [flds_len]; exact hk), flds_at hk, h1]
  · rw [List.getElem?_set_ne (Ne.symm hj)]
    by_cases hl : j < nfl ci
    · rw [flds_at hl, flds_at hl, h2 j hj]
    · rw [List.getElem?_eq_none (by rw [flds_len]; omega), List.getElem?_eq_none (by rw [flds_len]; omega)]
theorem flds_congr {h h' : Hp} {ci a : Nat} (h2 : ∀ j, fv h' ci a j = fv h ci a j) : flds h' ci a = flds h ci a := by unfold flds; exact List.map_congr_left (fun j _ => h2 j)
theorem sI_oth {E : Ev} {h : Hp} {f a b : Nat} {v : Int32} (hb : b ≠ a) : ent E (sI h f a v) b = ent E h b := by
  have : ∀ ci, flds (sI h f a v) ci b = flds h ci b := fun ci => flds_congr (fun j => by simp [fv, sI, hb])
  unfold ent
  rw [this]
  rfl
theorem sR_oth {E : Ev} {h : Hp} {f a b : Nat} {v : Option Nat} (hb : b ≠ a) : ent E (sR h f a v) b = ent E h b := by
  have : ∀ ci, flds (sR h f a v) ci b = flds h ci b := fun ci => flds_congr (fun j => by simp [fv, sR, hb])
  unfold ent
  rw [this]
  rfl
theorem sA_oth {E : Ev} {h : Hp} {i a b : Nat} {v : Int32} (hb : b ≠ a) : ent E (sA h a i v) b = ent E h b := by
  have : ∀ ci, flds (sA h a i v) ci b = flds h ci b := fun ci => flds_congr (fun j => rfl)
  unfold ent
  rw [this]
  simp [sA, hb]
theorem sQ_oth {E : Ev} {h : Hp} {i a b : Nat} {v : Option Nat} (hb : b ≠ a) : ent E (sQ h a i v) b = ent E h b := by
  have : ∀ ci, flds (sQ h a i v) ci b = flds h ci b := fun ci => flds_congr (fun j => rfl)
  unfold ent
  rw [this]
  simp [sQ, hb]
theorem sN_oth {E : Ev} {h : Hp} {b : Nat} (hb : b ≠ hn h) : ent E (sN h) b = ent E h b := by
  have : ∀ ci, flds (sN h) ci b = flds h ci b := fun ci => flds_congr (fun j => by simp [fv, sN, hb])
  unfold ent
  rw [this]
  simp [sN, hb]
theorem ent_obj {E : Ev} {h : Hp} {a ci : Nat} (hk : eK E a = ci) (hc : ci < 9) : ent E h a = .inr (ci, flds h ci a) := by unfold ent; rw [hk, if_pos hc]
theorem ent_int {E : Ev} {h : Hp} {a ci : Nat} (hk : eK E a = ci) (h9 : ¬ ci < 9) (h11 : ci < 11) : ent E h a = .inl (eC E ci, eN E a, .inl (h.2.2.1 a)) := by unfold ent; rw [hk, if_neg h9, if_pos h11]
theorem ent_ref {E : Ev} {h : Hp} {a ci : Nat} (hk : eK E a = ci) (h11 : ¬ ci < 11) : ent E h a = .inl (eC E ci, eN E a, .inr (.inr (.inr (.inr (h.2.2.2.1 a))))) := by unfold ent; rw [hk, if_neg (by omega), if_neg h11]
theorem pl_at {E : Ev} {h : Hp} {a : Nat} (h1 : eB E ≤ a) (h2 : a < hn h) : ∃ k : Nat, (pl E h)[k]? = some (a, ent E h a) := va_pl_get (X := []) (by rw [List.mem_range'_1]; omega)
theorem pl_mem {E : Ev} {h : Hp} {k : Nat} {q : Nat × va_E} (hk : (pl E h)[k]? = some q) : q = (q.1, ent E h q.1) ∧ eB E ≤ q.1 ∧ (eB E ≤ hn h → q.1 < hn h) := by
  have hm := List.mem_of_getElem? hk
  unfold pl va_pl at hm
  obtain ⟨a, ha, rfl⟩ := List.mem_map.mp hm
  rw [List.mem_range'_1] at ha
  exact ⟨rfl, ha.1, fun z => by omega⟩
theorem HH.at {E : Ev} {s : State} {h : Hp} {H : Heap} {a : Nat} (hH : HH E s h H) (h1 : eB E ≤ a) (h2 : a < hn h) : va_at (eD E) vwCl (a, ent E h a) H := by
  obtain ⟨k, hk⟩ := pl_at (E := E) h1 h2
  exact hH.1 k _ hk
theorem HH.obj {E : Ev} {s : State} {h : Hp} {H : Heap} {a ci : Nat} (hH : HH E s h H) (ho : Ob E h ci a) (hc : ci < 9) : t_OB a ((eD E).1 ci) (nfl ci) ((eD E).2 ci) H (vp_V (flds h ci a)) := by
  have h1 := hH.at ho.2.1 ho.2.2
  rw [ent_obj ho.1 hc] at h1
  obtain ⟨r, h3, h4⟩ := h1
  have : r = cT ci := Option.some.inj (h3.symm.trans (cT_at ci hc))
  subst this
  rw [cT_n ci hc] at h4
  exact h4
theorem HH.upd {E : Ev} {s : State} {h h' : Hp} {H H1 : Heap} {a : Nat} (hH : HH E s h H) (ha : eB E ≤ a) (hat : va_at (eD E) vwCl (a, ent E h' a) H1) (hz : H1.size = H.size) (oq : ∀ q, q ≠ a → H1[q]? = H[q]?) (hoth : ∀ b, b ≠ a → ent E h' b = ent E h b) (hn' : hn h' = hn h) : HH E s h' H1 := by
  obtain ⟨hP, hB, hsz, hs, hX⟩ := hH
  refine ⟨fun k q hk => ?_, by rw [hn']; exact hB, by rw [hz, hn']; exact hsz, hs, hX.kept (oq _ (by omega))⟩
  obtain ⟨e1, e2, e3⟩ := pl_mem hk
  have e3 := e3 (by rw [hn']; exact hB)
  rw [hn'] at e3
  by_cases hq : q.1 = a
  · rw [e1, hq]
    exact hat
  · rw [e1, hoth _ hq]
    obtain ⟨j, hj⟩ := pl_at (E := E) (h := h) e2 e3
    exact (hP j _ hj).kept (oq _ hq)
theorem HH.new {E : Ev} {s : State} {h : Hp} {H H1 : Heap} (hH : HH E s h H) (hat : va_at (eD E) vwCl (hn h, ent E (sN h) (hn h)) H1) (hz : H1.size = H.size + 1) (oq : ∀ q, q < H.size → H1[q]? = H[q]?) : HH E s (sN h) H1 := by
  obtain ⟨hP, hB, hsz, hs, hX⟩ := hH
  have hns : hn (sN h) = hn h + 1 := rfl
  refine ⟨fun k q hk => ?_, by rw [hns]; omega, by rw [hz, hns, hsz], hs, hX.kept (oq _ (by omega))⟩
  obtain ⟨e1, e2, e3⟩ := pl_mem hk
  have e3 := e3 (by rw [hns]; omega)
  rw [hns] at e3
  by_cases hq : q.1 = hn h
  · rw [e1, hq]
    exact hat
  · rw [e1, sN_oth hq]
    have h3 : q.1 < hn h := by omega
    obtain ⟨j, hj⟩ := pl_at (E := E) (h := h) e2 h3
    exact (hP j _ hj).kept (oq _ (by rw [hsz]; exact h3))
theorem va_S.app1 {A : Nat → Prop} {H0 H H1 : Heap} {locs : List Loc} (h : va_S A H0 H locs) (z : H1.size = H.size + 1) (oq : ∀ q : Nat, q < H.size → H1[q]? = H[q]?) : va_S A H0 H1 locs :=
  ⟨by rw [z]; have := h.1; omega, fun q h1 h2 => (oq q (by have := h.1; omega)).trans (h.2.1 q h1 h2), h.2.2⟩
section HEAP
variable {E : Ev} {M : MD} {R : Room} {Post : Option Value → Hp → Prop} {pc : Nat} {L : List (Option Value)} {st : List Value} {h : Hp} {ac as : Nat}
/-! ===== fields ===== -/
theorem G_getX (pc' : Nat) (hp : pc + 3 = pc') {a idx ci k : Nat} (hf : FL M.1 idx ci k) (ho : Ob E h ci a) (hd : decode M.2.2.1 pc = .ok (.getfield idx, 3)) (kk : G E M R Post pc' L (fv h ci a k :: st) h ac as) : G E M R Post pc L (.ref a :: st) h ac as := by
  subst hp
  intro p e s m args below meth c H locs cells slots ls C hH hS hL h1 h2
  obtain ⟨hc, hk, hw⟩ := hf
  obtain ⟨cell, q1, q2, q3, q4⟩ := hH.obj ho hc
  obtain ⟨hSl, hfc, kC, hkC, hkind⟩ := C.2.2.2.2.2.2.2.2.1.1.1 ci _ (cT_at ci hc)
  have hkN : k < (cT ci).2.2 := by rw [cT_n ci hc]; exact hk
  obtain ⟨cf, kf, fi, f, hi, hsl⟩ := hSl k hkN
  have hts := C.2.2.2.2.1
  have hin : ∀ w ∈ u_ws (cT ci).1 (cT ci).2.1 (cT ci).2.2, w ∈ WS M := fun w hw' => List.mem_cons_of_mem _ (cT_w ci hc w hw')
  refine W.getf C.1 C.2.1 C.2.2.2.1 (hts _ (List.mem_cons_of_mem _ hw)) hi (u_facts hfc hkC (u_lays hts hin hkN) hi).1 q1 (by rw [q3]; exact fun h => by cases h) (v := fv h ci a k) ?_ rfl rfl hd (kk p e s m args below meth c H locs cells slots ls C hH hS hL h1 h2)
  rw [hsl, q4 k hk]
  simp [vp_V, flds_at hk]
theorem G_getI (pc' : Nat) (hp : pc + 3 = pc') {a idx ci k : Nat} (hf : FL M.1 idx ci k) (hi : isRf ci k = false) (ho : Ob E h ci a) (hd : decode M.2.2.1 pc = .ok (.getfield idx, 3)) (kk : G E M R Post pc' L (.int (h.1 (64 * ci + k) a) :: st) h ac as) : G E M R Post pc L (.ref a :: st) h ac as := by
  refine G_getX pc' hp hf ho hd ?_
  unfold fv
  rw [if_neg (by rw [hi]; decide)]
  exact kk
theorem G_getR (pc' : Nat) (hp : pc + 3 = pc') {a idx ci k b : Nat} (hf : FL M.1 idx ci k) (hi : isRf ci k = true) (ho : Ob E h ci a) (hv : h.2.1 (64 * ci + k) a = some b) (hd : decode M.2.2.1 pc = .ok (.getfield idx, 3)) (kk : G E M R Post pc' L (.ref b :: st) h ac as) : G E M R Post pc L (.ref a :: st) h ac as := by
  refine G_getX pc' hp hf ho hd ?_
  unfold fv
  rw [if_pos hi, hv]
  exact kk
theorem G_getQ (pc' : Nat) (hp : pc + 3 = pc') {a idx ci k : Nat} (hf : FL M.1 idx ci k) (hi : isRf ci k = true) (ho : Ob E h ci a) (hd : decode M.2.2.1 pc = .ok (.getfield idx, 3)) (kk : G E M R Post pc' L (va_rf (h.2.1 (64 * ci + k) a) :: st) h ac as) : G E M R Post pc L (.ref a :: st) h ac as := by
  refine G_getX pc' hp hf ho hd ?_
  unfold fv
  rw [if_pos hi]
  exact kk
theorem G_putX (pc' : Nat) (hp : pc + 3 = pc') {h' : Hp} {a idx ci k : Nat} {v : Value} (hf : FL M.1 idx ci k) (hfin : ((cT ci).2.1 k).2.2.2 = false ∨ (((cT ci).2.1 k).2.2.2 = true ∧ M.2.1.name = "<init>" ∧ ((cT ci).2.1 k).1 = M.1)) (ho : Ob E h ci a) (hnr : narrow (tyF ci k) v = v) (hfit : fits (tyF ci k) v = true)
    (hset : flds h' ci a = (flds h ci a).set k v) (hoth : ∀ b, b ≠ a → ent E h' b = ent E h b) (hn' : hn h' = hn h) (hd : decode M.2.2.1 pc = .ok (.putfield idx, 3)) (kk : G E M R Post pc' L st h' ac as) : G E M R Post pc L (v :: .ref a :: st) h ac as := by
  subst hp
  intro p e s m args below meth c H locs cells slots ls C hH hS hL h1 h2
  obtain ⟨hc, hk, hw⟩ := hf
  obtain ⟨cell, q1, q2, q3, q4⟩ := hH.obj ho hc
  have hK := C.2.2.2.2.2.2.2.2.1.1
  obtain ⟨hSl, hfc, kC, hkC, hkind⟩ := hK.1 ci _ (cT_at ci hc)
  have hkN : k < (cT ci).2.2 := by rw [cT_n ci hc]; exact hk
  obtain ⟨cf, kf, fi, f, hi, hsl⟩ := hSl k hkN
  have hts := C.2.2.2.2.1
  have hin : ∀ w ∈ u_ws (cT ci).1 (cT ci).2.1 (cT ci).2.2, w ∈ WS M := fun w hw' => List.mem_cons_of_mem _ (cT_w ci hc w hw')
  have hap := va_apart (own := M.1) hts hin (tyF ci) (cT_ty ci hc) (cT_nm ci hc) hK (cT_at ci hc)
  rw [cT_n ci hc] at hap
  have hlay := hts _ (hin _ (u_in_lay hkN))
  unfold u_lay at hlay
  have hst := (u_facts hfc hkC (u_lays hts hin hkN) hi).1
  have fin : ∀ H1 : Heap, H1[a]? = some (cell.setSlot f.slot v) → H1.size = H.size → (∀ q, q ≠ a → H1[q]? = H[q]?) → W p (eL E) e R s m args below meth c H1 (locs ++ [⟨a, f.slot⟩]) cells slots (MQ below (QQ E Post) args s R.cells R.slots (eA E)) (F0 m (pc + 3) ls st) := by
    intro H1 e1 e2 e3
    refine kk p e s m args below meth c H1 _ cells slots ls C (hH.upd ho.2.1 ?_ e2 e3 hoth hn') (hS.put e2 e3 ho.2.1) hL h1 h2
    rw [ent_obj ho.1 hc, hset]
    refine ⟨cT ci, cT_at ci hc, ?_⟩
    rw [cT_n ci hc]
    rw [hsl] at e1
    exact t_OB.to (V := updV (vp_V (flds h ci a)) k v) ⟨_, e1, q2, q3, t_set q4 hap hk v⟩ (fun j _ => vp_updV_set (by rw [flds_len]; exact hk) v j)
  rcases hfin with hfin | ⟨hfin, hinit, hdecl⟩
  · rw [if_neg (by rw [hfin]; decide)] at hlay
    have h6 := u_store hfc hkC hkind hlay hi (cT_ty ci hc k hkN) hnr hfit
    exact W.putK C.1 C.2.1 (f := f) ⟨C.2.2.2.1, hts _ (List.mem_cons_of_mem _ hw), ⟨_, _, _, hi⟩, hst⟩ (by rw [q2]; exact h6) q1 q3 (by rw [hsl]; exact k2_hasslot (q4 k hk)) rfl rfl hd fin
  · rw [if_pos hfin] at hlay
    have hcf : m.cls = cf := by
      obtain ⟨_, _, c', _, _, _, -, -, hf', -, -, -, hown2, -⟩ := Cond.laysFinal_spec hlay
      have e1 : c' = cf := by have := hi.symm.trans hf'; simp at this; exact this.1.symm
      rw [hdecl] at hown2
      rw [← e1]; exact Option.some.inj (C.2.2.2.1.symm.trans hown2)
    have h6 := u_fits hfc hkC hkind (Or.inr hlay) hi (cT_ty ci hc k hkN) hnr hfit
    exact W.putFinK C.1 C.2.1 C.2.2.2.1 (hts _ (List.mem_cons_of_mem _ hw)) hi hst hcf (C.2.2.2.2.2.2.2.1.trans hinit) (by rw [q2]; exact h6) q1 q3 (by rw [hsl]; exact k2_hasslot (q4 k hk)) rfl rfl hd fin
theorem fI_set {h : Hp} {ci a k : Nat} {v : Int32} (hk : k < nfl ci) (hi : isRf ci k = false) : flds (sI h (64 * ci + k) a v) ci a = (flds h ci a).set k (.int v) := by
  refine flds_set hk ?_ (fun j hj => ?_)
  · simp [fv, sI, hi]
  · simp [fv, sI, hj]
theorem fR_set {h : Hp} {ci a k : Nat} {v : Option Nat} (hk : k < nfl ci) (hi : isRf ci k = true) : flds (sR h (64 * ci + k) a v) ci a = (flds h ci a).set k (va_rf v) := by
  refine flds_set hk ?_ (fun j hj => ?_)
  · simp [fv, sR, hi]
  · simp [fv, sR, hj]
theorem G_putI (pc' : Nat) (hp : pc + 3 = pc') {a idx ci k : Nat} {v : Int32} (hf : FL M.1 idx ci k) (hi : isRf ci k = false ∧ tyF ci k = .int ∧ ((cT ci).2.1 k).2.2.2 = false) (ho : Ob E h ci a) (hd : decode M.2.2.1 pc = .ok (.putfield idx, 3)) (kk : G E M R Post pc' L st (sI h (64 * ci + k) a v) ac as) : G E M R Post pc L (.int v :: .ref a :: st) h ac as :=
  G_putX pc' hp hf (Or.inl hi.2.2) ho (by rw [hi.2.1]; rfl) (by rw [hi.2.1]; rfl) (fI_set hf.2.1 hi.1) (fun _ hb => sI_oth hb) rfl hd kk
theorem nar01 {v : Int32} (hv : v = 0 ∨ v = 1) : narrow .boolean (.int v) = .int v ∧ fits .boolean (.int v) = true := by
  rcases hv with rfl | rfl <;> exact ⟨by decide, by decide⟩
theorem G_putZ (pc' : Nat) (hp : pc + 3 = pc') {a idx ci k : Nat} {v : Int32} (hf : FL M.1 idx ci k) (hi : isRf ci k = false ∧ tyF ci k = .boolean ∧ ((cT ci).2.1 k).2.2.2 = false) (hv : v = 0 ∨ v = 1) (ho : Ob E h ci a) (hd : decode M.2.2.1 pc = .ok (.putfield idx, 3)) (kk : G E M R Post pc' L st (sI h (64 * ci + k) a v) ac as) : G E M R Post pc L (.int v :: .ref a :: st) h ac as :=
  G_putX pc' hp hf (Or.inl hi.2.2) ho (by rw [hi.2.1]; exact (nar01 hv).1) (by rw [hi.2.1]; exact (nar01 hv).2) (fI_set hf.2.1 hi.1) (fun _ hb => sI_oth hb) rfl hd kk
theorem G_putFI (pc' : Nat) (hp : pc + 3 = pc') {a idx ci k : Nat} {v : Int32} (hf : FL M.1 idx ci k) (hi : isRf ci k = false ∧ tyF ci k = .int ∧ ((cT ci).2.1 k).2.2.2 = true) (hin : M.2.1.name = "<init>" ∧ ((cT ci).2.1 k).1 = M.1) (ho : Ob E h ci a) (hd : decode M.2.2.1 pc = .ok (.putfield idx, 3)) (kk : G E M R Post pc' L st (sI h (64 * ci + k) a v) ac as) : G E M R Post pc L (.int v :: .ref a :: st) h ac as :=
  G_putX pc' hp hf (Or.inr ⟨hi.2.2, hin⟩) ho (by rw [hi.2.1]; rfl) (by rw [hi.2.1]; rfl) (fI_set hf.2.1 hi.1) (fun _ hb => sI_oth hb) rfl hd kk
theorem nar_rf {ty : FieldType} (ht : ty.isReference = true) (r : Option Nat) : narrow ty (va_rf r) = va_rf r ∧ fits ty (va_rf r) = true := by
  cases r <;> cases ty <;> first | exact ⟨rfl, rfl⟩ | (simp [FieldType.isReference] at ht)
theorem G_putR (pc' : Nat) (hp : pc + 3 = pc') {a idx ci k b : Nat} (hf : FL M.1 idx ci k) (hi : isRf ci k = true ∧ (tyF ci k).isReference = true ∧ ((cT ci).2.1 k).2.2.2 = false) (ho : Ob E h ci a) (hd : decode M.2.2.1 pc = .ok (.putfield idx, 3)) (kk : G E M R Post pc' L st (sR h (64 * ci + k) a (some b)) ac as) : G E M R Post pc L (.ref b :: .ref a :: st) h ac as :=
  G_putX pc' hp hf (Or.inl hi.2.2) ho (nar_rf hi.2.1 (some b)).1 (nar_rf hi.2.1 (some b)).2 (fR_set (v := some b) hf.2.1 hi.1) (fun _ hb => sR_oth hb) rfl hd kk
theorem G_putN (pc' : Nat) (hp : pc + 3 = pc') {a idx ci k : Nat} (hf : FL M.1 idx ci k) (hi : isRf ci k = true ∧ (tyF ci k).isReference = true ∧ ((cT ci).2.1 k).2.2.2 = false) (ho : Ob E h ci a) (hd : decode M.2.2.1 pc = .ok (.putfield idx, 3)) (kk : G E M R Post pc' L st (sR h (64 * ci + k) a none) ac as) : G E M R Post pc L (.null :: .ref a :: st) h ac as :=
  G_putX pc' hp hf (Or.inl hi.2.2) ho (nar_rf hi.2.1 none).1 (nar_rf hi.2.1 none).2 (fR_set (v := none) hf.2.1 hi.1) (fun _ hb => sR_oth hb) rfl hd kk
theorem G_putFR (pc' : Nat) (hp : pc + 3 = pc') {a idx ci k b : Nat} (hf : FL M.1 idx ci k) (hi : isRf ci k = true ∧ (tyF ci k).isReference = true ∧ ((cT ci).2.1 k).2.2.2 = true) (hin : M.2.1.name = "<init>" ∧ ((cT ci).2.1 k).1 = M.1) (ho : Ob E h ci a) (hd : decode M.2.2.1 pc = .ok (.putfield idx, 3)) (kk : G E M R Post pc' L st (sR h (64 * ci + k) a (some b)) ac as) : G E M R Post pc L (.ref b :: .ref a :: st) h ac as :=
  G_putX pc' hp hf (Or.inr ⟨hi.2.2, hin⟩) ho (nar_rf hi.2.1 (some b)).1 (nar_rf hi.2.1 (some b)).2 (fR_set (v := some b) hf.2.1 hi.1) (fun _ hb => sR_oth hb) rfl hd kk
end HEAP
end
section
section ARRAYS
variable {E : Ev} {M : MD} {R : Room} {Post : Option Value → Hp → Prop} {pc : Nat} {L : List (Option Value)} {st : List Value} {h : Hp} {ac as : Nat}
/-! ===== arrays: kinds 9 int, 10 boolean, 11 Entry, 12 EntryList, 13 Guard, 14 Proc ===== -/
theorem HH.ai {s : State} {H : Heap} {a ci : Nat} (hH : HH E s h H) (ho : Ob E h ci a) (h9 : ¬ ci < 9) (h11 : ci < 11) : H[a]? = some (arrV (eC E ci) (eN E a) (fun j => .int (h.2.2.1 a j))) := by
  have h1 := hH.at ho.2.1 ho.2.2
  rw [ent_int ho.1 h9 h11] at h1
  exact h1
theorem HH.aq {s : State} {H : Heap} {a ci : Nat} (hH : HH E s h H) (ho : Ob E h ci a) (h11 : ¬ ci < 11) : H[a]? = some (arrV (eC E ci) (eN E a) (fun j => va_rf (h.2.2.2.1 a j))) := by
  have h1 := hH.at ho.2.1 ho.2.2
  rw [ent_ref ho.1 h11] at h1
  exact h1
def aTy (ci : Nat) : FieldType := match ci with
  | 9 => .int | 10 => .boolean | 11 => .object RX0 | 12 => .object RX1 | 13 => .object RX2 | _ => .object RX5
theorem KK.arr {s : State} (hK : KK E s) {ci : Nat} (h9 : ¬ ci < 9) (h15 : ci < 15) : ArrOfT s (eC E ci) (aTy ci) ∧ va_RA s (eC E ci) (aTy ci) := by
  rcases ci with _ | _ | _ | _ | _ | _ | _ | _ | _ | _ | _ | _ | _ | _ | _ | n
  any_goals omega
  · exact hK.1.2 0 _ rfl
  · exact hK.1.2 1 _ rfl
  · exact hK.1.2 2 _ rfl
  · exact hK.1.2 3 _ rfl
  · exact hK.1.2 4 _ rfl
  · exact hK.1.2 5 _ rfl
theorem G_alen (pc' : Nat) (hp : pc + 1 = pc') {a ci : Nat} (ho : Ob E h ci a) (h9 : ¬ ci < 9) (h15 : ci < 15) (hd : decode M.2.2.1 pc = .ok (.arraylength, 1)) (kk : G E M R Post pc' L (.int (nI (eN E a)) :: st) h ac as) : G E M R Post pc L (.ref a :: st) h ac as := by
  subst hp
  intro p e s m args below meth c H locs cells slots ls C hH hS hL h1 h2
  have hA := (C.2.2.2.2.2.2.2.2.1.arr h9 h15).1
  by_cases h11 : ci < 11
  · exact W.alen (n := nI (eN E a)) C.1 C.2.1 (hH.ai ho h9 h11) (hA _ _) (by rw [arrV_size] <;> rfl) rfl rfl hd (kk p e s m args below meth c H locs cells slots ls C hH hS hL h1 h2)
  · exact W.alen (n := nI (eN E a)) C.1 C.2.1 (hH.aq ho h11) (hA _ _) (by rw [arrV_size] <;> rfl) rfl rfl hd (kk p e s m args below meth c H locs cells slots ls C hH hS hL h1 h2)
theorem G_iaload (pc' : Nat) (hp : pc + 1 = pc') {a : Nat} {i : Int32} (j : Nat) (hj : i = nI j) (ho : Ob E h 9 a) (hlt : j < eN E a) (hb : j < 2 ^ 31) (hd : decode M.2.2.1 pc = .ok (.iaload, 1)) (kk : G E M R Post pc' L (.int (h.2.2.1 a j) :: st) h ac as) : G E M R Post pc L (.int i :: .ref a :: st) h ac as := by
  subst hp
  subst hj
  intro p e s m args below meth c H locs cells slots ls C hH hS hL h1 h2
  have hc : (nI j).toNatClampNeg = j := nI_clamp hb
  exact W.iald (v := .int (h.2.2.1 a j)) C.1 C.2.1 (hH.ai ho (by omega) (by omega)) ((C.2.2.2.2.2.2.2.2.1.arr (ci := 9) (by omega) (by omega)).1 _ _) (fun q => by cases q) (by rw [arrV_size, hc]; exact fun q => q.elim (nI_pos hb) (by omega)) (by rw [hc, arrV_read _ _ hlt]) rfl rfl hd (kk p e s m args below meth c H locs cells slots ls C hH hS hL h1 h2)
theorem G_baload (pc' : Nat) (hp : pc + 1 = pc') {a : Nat} {i : Int32} (j : Nat) (hj : i = nI j) (ho : Ob E h 10 a) (hlt : j < eN E a) (hb : j < 2 ^ 31) (hd : decode M.2.2.1 pc = .ok (.baload, 1)) (kk : G E M R Post pc' L (.int (h.2.2.1 a j) :: st) h ac as) : G E M R Post pc L (.int i :: .ref a :: st) h ac as := by
  subst hp
  subst hj
  intro p e s m args below meth c H locs cells slots ls C hH hS hL h1 h2
  have hc : (nI j).toNatClampNeg = j := nI_clamp hb
  exact W.zald (v := .int (h.2.2.1 a j)) C.1 C.2.1 (hH.ai ho (by omega) (by omega)) ((C.2.2.2.2.2.2.2.2.1.arr (ci := 10) (by omega) (by omega)).1 _ _) (fun q => by cases q) (by rw [arrV_size, hc]; exact fun q => q.elim (nI_pos hb) (by omega)) (by rw [hc, arrV_read _ _ hlt]) rfl rfl hd (kk p e s m args below meth c H locs cells slots ls C hH hS hL h1 h2)
theorem aTy_ref {ci : Nat} (h11 : ¬ ci < 11) : (aTy ci).isReference = true := by
  rcases ci with _ | _ | _ | _ | _ | _ | _ | _ | _ | _ | _ | _ | _ | _ | _ | n
  any_goals omega
  all_goals rfl
theorem G_aaload (pc' : Nat) (hp : pc + 1 = pc') {a ci : Nat} {i : Int32} (j : Nat) (hj : i = nI j) (ho : Ob E h ci a) (h11 : ¬ ci < 11) (h15 : ci < 15) (hlt : j < eN E a) (hb : j < 2 ^ 31) (hd : decode M.2.2.1 pc = .ok (.aaload, 1)) (kk : G E M R Post pc' L (va_rf (h.2.2.2.1 a j) :: st) h ac as) : G E M R Post pc L (.int i :: .ref a :: st) h ac as := by
  subst hp
  subst hj
  intro p e s m args below meth c H locs cells slots ls C hH hS hL h1 h2
  have hc : (nI j).toNatClampNeg = j := nI_clamp hb
  exact W.aald (v := va_rf (h.2.2.2.1 a j)) (ty := aTy ci) C.1 C.2.1 (hH.aq ho h11) ((C.2.2.2.2.2.2.2.2.1.arr (ci := ci) (by omega) h15).1 _ _) (aTy_ref h11) (fun q => by cases q) (by rw [arrV_size, hc]; exact fun q => q.elim (nI_pos hb) (by omega)) (by rw [hc, arrV_read _ _ hlt]) rfl rfl hd (kk p e s m args below meth c H locs cells slots ls C hH hS hL h1 h2)
theorem G_aaloadR (pc' : Nat) (hp : pc + 1 = pc') {a ci b : Nat} {i : Int32} (j : Nat) (hj : i = nI j) (ho : Ob E h ci a) (h11 : ¬ ci < 11) (h15 : ci < 15) (hlt : j < eN E a) (hb : j < 2 ^ 31) (hv : h.2.2.2.1 a j = some b) (hd : decode M.2.2.1 pc = .ok (.aaload, 1)) (kk : G E M R Post pc' L (.ref b :: st) h ac as) : G E M R Post pc L (.int i :: .ref a :: st) h ac as := by
  refine G_aaload pc' hp j hj ho h11 h15 hlt hb hd ?_
  rw [hv]
  exact kk
theorem sA_int {a i ci : Nat} {v : Int32} (hk : eK E a = ci) (h9 : ¬ ci < 9) (h11 : ci < 11) : ent E (sA h a i v) a = .inl (eC E ci, eN E a, .inl (upd (h.2.2.1 a) i v)) := by
  rw [ent_int hk h9 h11]
  congr 4
  funext j
  simp [sA, upd]
theorem sQ_ref {a i ci : Nat} {v : Option Nat} (hk : eK E a = ci) (h11 : ¬ ci < 11) : ent E (sQ h a i v) a = .inl (eC E ci, eN E a, .inr (.inr (.inr (.inr (va_up (h.2.2.2.1 a) i v))))) := by
  rw [ent_ref hk h11]
  congr 7
  funext j
  simp [sQ, va_up]
theorem G_iastore (pc' : Nat) (hp : pc + 1 = pc') {a : Nat} {i v : Int32} (j : Nat) (hj : i = nI j) (ho : Ob E h 9 a) (hlt : j < eN E a) (hb : j < 2 ^ 31) (hd : decode M.2.2.1 pc = .ok (.iastore, 1)) (kk : G E M R Post pc' L st (sA h a j v) ac as) : G E M R Post pc L (.int v :: .int i :: .ref a :: st) h ac as := by
  subst hp
  subst hj
  intro p e s m args below meth c H locs cells slots ls C hH hS hL h1 h2
  have hc : (nI j).toNatClampNeg = j := nI_clamp hb
  refine W.iast C.1 C.2.1 (hH.ai ho (by omega) (by omega)) ((C.2.2.2.2.2.2.2.2.1.arr (ci := 9) (by omega) (by omega)).1 _ _) (fun q => by cases q) (by rw [arrV_size, hc]; exact fun q => q.elim (nI_pos hb) (by omega)) rfl rfl hd fun H1 e1 e2 e3 => ?_
  refine kk p e s m args below meth c H1 _ cells slots ls C (hH.upd ho.2.1 ?_ e2 e3 (fun _ q => sA_oth q) rfl) (hS.put e2 e3 ho.2.1) hL h1 h2
  rw [sA_int ho.1 (by omega) (by omega)]
  show H1[a]? = some (vp_cell _ _)
  rw [e1, vp_cell_i, arrV_store, hc]
  congr 2
  funext q
  by_cases hq : q = j <;> simp [updV, upd, hq]
theorem G_bastore (pc' : Nat) (hp : pc + 1 = pc') {a : Nat} {i v : Int32} (j : Nat) (hj : i = nI j) (ho : Ob E h 10 a) (hlt : j < eN E a) (hb : j < 2 ^ 31) (hv : v = 0 ∨ v = 1) (hd : decode M.2.2.1 pc = .ok (.bastore, 1)) (kk : G E M R Post pc' L st (sA h a j v) ac as) : G E M R Post pc L (.int v :: .int i :: .ref a :: st) h ac as := by
  subst hp
  subst hj
  intro p e s m args below meth c H locs cells slots ls C hH hS hL h1 h2
  have hc : (nI j).toNatClampNeg = j := nI_clamp hb
  refine W.zast C.1 C.2.1 (hH.ai ho (by omega) (by omega)) ((C.2.2.2.2.2.2.2.2.1.arr (ci := 10) (by omega) (by omega)).1 _ _) (fun q => by cases q) (by rw [arrV_size, hc]; exact fun q => q.elim (nI_pos hb) (by omega)) rfl rfl hd fun H1 e1 e2 e3 => ?_
  refine kk p e s m args below meth c H1 _ cells slots ls C (hH.upd ho.2.1 ?_ e2 e3 (fun _ q => sA_oth q) rfl) (hS.put e2 e3 ho.2.1) hL h1 h2
  rw [sA_int ho.1 (by omega) (by omega)]
  show H1[a]? = some (vp_cell _ _)
  rw [e1, (nar01 hv).1, vp_cell_i, arrV_store, hc]
  congr 2
  funext q
  by_cases hq : q = j <;> simp [updV, upd, hq]
theorem G_aastoreN (pc' : Nat) (hp : pc + 1 = pc') {a ci : Nat} {C0 : String} {i : Int32} (j : Nat) (hj : i = nI j) (ho : Ob E h ci a) (h11 : ¬ ci < 11) (h15 : ci < 15) (hC0 : aTy ci = .object C0) (hlt : j < eN E a) (hb : j < 2 ^ 31) (hd : decode M.2.2.1 pc = .ok (.aastore, 1)) (kk : G E M R Post pc' L st (sQ h a j none) ac as) : G E M R Post pc L (.null :: .int i :: .ref a :: st) h ac as := by
  subst hp
  subst hj
  intro p e s m args below meth c H locs cells slots ls C hH hS hL h1 h2
  have hc : (nI j).toNatClampNeg = j := nI_clamp hb
  have hA := (C.2.2.2.2.2.2.2.2.1.arr (ci := ci) (by omega) h15).1
  rw [hC0] at hA
  refine va_WaastN (C := C0) C.1 C.2.1 (hH.aq ho h11) (hA _ _) (fun q => by cases q) (by rw [arrV_size, hc]; exact fun q => q.elim (nI_pos hb) (by omega)) rfl rfl hd fun H1 e1 e2 e3 => ?_
  refine kk p e s m args below meth c H1 _ cells slots ls C (hH.upd ho.2.1 ?_ e2 e3 (fun _ q => sQ_oth q) rfl) (hS.put e2 e3 ho.2.1) hL h1 h2
  rw [sQ_ref ho.1 h11]
  show H1[a]? = some (vp_cell _ _)
  rw [e1, vp_cell_q, arrV_store, hc]
  congr 2
  funext q
  by_cases hq : q = j <;> simp [updV, va_up, va_rf, hq]
theorem G_aastore (pc' : Nat) (hp : pc + 1 = pc') {a ci cv b : Nat} {i : Int32} (j : Nat) (hj : i = nI j) (ho : Ob E h ci a) (h11 : ¬ ci < 11) (h15 : ci < 15) (hcv : cv < 9) (hC0 : aTy ci = .object (cT cv).1) (hob : Ob E h cv b) (hlt : j < eN E a) (hb : j < 2 ^ 31) (hd : decode M.2.2.1 pc = .ok (.aastore, 1)) (kk : G E M R Post pc' L st (sQ h a j (some b)) ac as) : G E M R Post pc L (.ref b :: .int i :: .ref a :: st) h ac as := by
  subst hp
  subst hj
  intro p e s m args below meth c H locs cells slots ls C hH hS hL h1 h2
  have hc : (nI j).toNatClampNeg = j := nI_clamp hb
  have hKK := C.2.2.2.2.2.2.2.2.1
  have hRA := (hKK.arr (ci := ci) (by omega) h15).2
  rw [hC0] at hRA
  obtain ⟨kA, comp, k1, k2, k3, -⟩ := hRA
  have hcls := (hKK.1.1 cv _ (cT_at cv hcv)).2
  have hcomp : comp = (eD E).1 cv := Option.some.inj (k3.symm.trans hcls.1)
  subst hcomp
  obtain ⟨kC, hkC, -⟩ := hcls.2
  obtain ⟨cellV, g1, g2, g3, -⟩ := hH.obj hob hcv
  refine W.aast C.1 C.2.1 (hH.aq ho h11) (fun q h => by cases h) (fun h => by cases h) k1 k2 rfl hkC ⟨by exact nI_pos hb, by rw [arrV_size, hc]; exact hlt⟩ g1 (fun q h => by rw [g3] at h; cases h) (by rw [g2]; exact hkC) (by rw [g2]; exact va_assign hcls) rfl rfl hd fun H1 e1 e2 e3 => ?_
  refine kk p e s m args below meth c H1 _ cells slots ls C (hH.upd ho.2.1 ?_ e2 e3 (fun _ q => sQ_oth q) rfl) (hS.put e2 e3 ho.2.1) hL h1 h2
  rw [sQ_ref ho.1 h11]
  show H1[a]? = some (vp_cell _ _)
  rw [e1, vp_cell_q, arrV_store, hc]
  congr 2
  funext q
  by_cases hq : q = j <;> simp [updV, va_up, va_rf, hq]
/-! the script -/
theorem G_sload (pc' : Nat) (hp : pc + 1 = pc') {i : Int32} (j : Nat) (hj : i = nI j) (hlt : j < eZ E) (hb : j < 2 ^ 31) (hd : decode M.2.2.1 pc = .ok (.iaload, 1)) (kk : G E M R Post pc' L (.int (eX E j) :: st) h ac as) : G E M R Post pc L (.int i :: .ref (eS E) :: st) h ac as := by
  subst hp
  subst hj
  intro p e s m args below meth c H locs cells slots ls C hH hS hL h1 h2
  have hc : (nI j).toNatClampNeg = j := nI_clamp hb
  obtain ⟨scr, x1, x2, x3, x4, x5⟩ := hH.2.2.2.2
  exact W.iald (v := .int (eX E j)) C.1 C.2.1 x1 x2 x3 (by rw [x4, hc]; exact fun q => q.elim (nI_pos hb) (by omega)) (by rw [hc]; exact x5 _ hlt) rfl rfl hd (kk p e s m args below meth c H locs cells slots ls C hH hS hL h1 h2)
theorem G_slen (pc' : Nat) (hp : pc + 1 = pc') (hd : decode M.2.2.1 pc = .ok (.arraylength, 1)) (kk : G E M R Post pc' L (.int (nI (eZ E)) :: st) h ac as) : G E M R Post pc L (.ref (eS E) :: st) h ac as := by
  subst hp
  intro p e s m args below meth c H locs cells slots ls C hH hS hL h1 h2
  obtain ⟨scr, x1, x2, x3, x4, x5⟩ := hH.2.2.2.2
  exact W.alen (n := nI (eZ E)) C.1 C.2.1 x1 x2 (by rw [x4] <;> rfl) rfl rfl hd (kk p e s m args below meth c H locs cells slots ls C hH hS hL h1 h2)
/-! ===== making ===== -/
theorem dflt_key : ∀ ci, ci < 9 → ∀ k, k < nfl ci → defaultValue (tyF ci k) = if isRf ci k = true then Value.null else .int 0 := nine (by decide +kernel) (by decide +kernel) (by decide +kernel) (by decide +kernel) (by decide +kernel) (by decide +kernel) (by decide +kernel) (by decide +kernel) (by decide +kernel)
theorem dflt_rf {ci : Nat} (hc : ci < 9) : ∀ k, k < nfl ci → defaultValue (tyF ci k) = vp_V (flds (sN h) ci (hn h)) k := by
  intro k hk
  have e : vp_V (flds (sN h) ci (hn h)) k = fv (sN h) ci (hn h) k := by simp [vp_V, flds_at hk]
  rw [e]
  rw [dflt_key ci hc k hk]
  simp [fv, sN, va_rf]
theorem G_new (pc' : Nat) (hp : pc + 3 = pc') {idx ci ac' as' : Nat} (hc : ci < 9) (hw : Cond.classLink M.1 idx (cT ci).1 ∈ lw_good) (hw2 : Cond.instantiable (cT ci).1 (nfl ci) ∈ lw_good) (hw3 : Cond.initialized (cT ci).1 ∈ lw_good) (hk : eK E (hn h) = ci) (hac : ac = ac' + 1) (has : as = as' + nfl ci) (hd : decode M.2.2.1 pc = .ok (.new idx, 3)) (kk : G E M R Post pc' L (.ref (hn h) :: st) (sN h) ac' as') : G E M R Post pc L st h ac as := by
  subst hp
  intro p e s m args below meth c H locs cells slots ls C hH hS hL h1 h2
  have hts := C.2.2.2.2.1
  have hK := C.2.2.2.2.2.2.2.2.1.1
  have hKn := hK.1 ci _ (cT_at ci hc)
  refine W.newcK C.1 C.2.1 C.2.2.2.1 (hts _ (List.mem_cons_of_mem _ hw)) (hts _ (List.mem_cons_of_mem _ hw2)) (hts _ (List.mem_cons_of_mem _ hw3)) rfl hd (by omega) (by omega) hKn.2.1 hH.2.2.1 fun H1 kC hkC e1 z1 o1 => ?_
  rw [← hH.2.2.1] at o1 z1
  refine kk p e s m args below meth c H1 locs (cells + 1) (slots + nfl ci) ls C (hH.new ?_ z1 o1) (hS.app1 z1 o1) hL (by omega) (by omega)
  rw [ent_obj hk hc]
  refine ⟨cT ci, cT_at ci hc, ?_⟩
  have hin : ∀ w ∈ u_ws (cT ci).1 (cT ci).2.1 (cT ci).2.2, w ∈ WS M := fun w hw' => List.mem_cons_of_mem _ (cT_w ci hc w hw')
  refine (u_born (tyF ci) hts hin hKn hkC e1 (cT_ty ci hc)).to ?_
  rw [cT_n ci hc]
  exact dflt_rf hc
theorem G_newI (pc' : Nat) (hp : pc + 2 = pc') {n : Int32} {N ac' as' ci : Nat} {at' : ArrayType} (hci : (ci = 9 ∧ newarray.typeOf at' = .int) ∨ (ci = 10 ∧ newarray.typeOf at' = .boolean)) (hw : Cond.arrayClass (newarray.typeOf at') ∈ lw_good) (hn1 : n = nI N) (hN : N < 65536) (hk : eK E (hn h) = ci) (hl : eN E (hn h) = N) (hac : ac = ac' + 1) (has : as = as' + N) (hd : decode M.2.2.1 pc = .ok (.newarray at', 2)) (kk : G E M R Post pc' L (.ref (hn h) :: st) (sN h) ac' as') : G E M R Post pc L (.int n :: st) h ac as := by
  subst hp
  subst hn1
  intro p e s m args below meth c H locs cells slots ls C hH hS hL h1 h2
  have hts := C.2.2.2.2.1
  have hKK := C.2.2.2.2.2.2.2.2.1
  have hc : (nI N).toNatClampNeg = N := nI_clamp (by omega)
  have hby : N * componentBytes (newarray.typeOf at') ≤ 536870912 := by
    rcases hci with ⟨-, q⟩ | ⟨-, q⟩ <;> rw [q] <;> simp [componentBytes] <;> omega
  refine va_newaK C.1 C.2.1 (hts _ (List.mem_cons_of_mem _ hw)) rfl hd rfl (nI_pos (by omega)) hc hby (by omega) (by omega) hH.2.2.1 fun H1 cA e1 z1 o1 hAr hNm => ?_
  rw [← hH.2.2.1] at o1 z1
  refine kk p e s m args below meth c H1 locs (cells + 1) (slots + N) ls C (hH.new ?_ z1 o1) (hS.app1 z1 o1) hL (by omega) (by omega)
  have hz : (fun j : Nat => Value.int ((sN h).2.2.1 (hn h) j)) = fun _ => .int 0 := by funext j; simp [sN]
  rcases hci with ⟨rfl, q⟩ | ⟨rfl, q⟩
  · rw [q] at e1 hNm
    have : cA = eC E 9 := Option.some.inj (hNm.symm.trans (hKK.arr (ci := 9) (by omega) (by omega)).2)
    subst this
    rw [ent_int hk (by omega) (by omega)]
    show H1[hn h]? = some (vp_cell _ _)
    rw [vp_cell_i, hl, hz]
    exact e1
  · rw [q] at e1 hNm
    have : cA = eC E 10 := Option.some.inj (hNm.symm.trans (hKK.arr (ci := 10) (by omega) (by omega)).2)
    subst this
    rw [ent_int hk (by omega) (by omega)]
    show H1[hn h]? = some (vp_cell _ _)
    rw [vp_cell_i, hl, hz]
    exact e1
theorem KK.over {s : State} (hK : KK E s) {ci : Nat} {C0 : String} (h11 : ¬ ci < 11) (h15 : ci < 15) (hC : aTy ci = .object C0) : va_AO C0 s := by
  obtain ⟨a1, a2, a3, a4⟩ := hK.2.1
  rcases ci with _ | _ | _ | _ | _ | _ | _ | _ | _ | _ | _ | _ | _ | _ | _ | n
  any_goals omega
  · cases hC; exact a1
  · cases hC; exact a2
  · cases hC; exact a3
  · cases hC; exact a4
theorem G_anew (pc' : Nat) (hp : pc + 3 = pc') {n : Int32} {N ac' as' ci idx : Nat} {C0 : String} (h11 : ¬ ci < 11) (h15 : ci < 15) (hC : aTy ci = .object C0) (hw : Cond.classLink M.1 idx C0 ∈ lw_good) (hn1 : n = nI N) (hN : N < 65536) (hk : eK E (hn h) = ci) (hl : eN E (hn h) = N) (hac : ac = ac' + 1) (has : as = as' + N) (hd : decode M.2.2.1 pc = .ok (.anewarray idx, 3)) (kk : G E M R Post pc' L (.ref (hn h) :: st) (sN h) ac' as') : G E M R Post pc L (.int n :: st) h ac as := by
  subst hp
  subst hn1
  intro p e s m args below meth c H locs cells slots ls C hH hS hL h1 h2
  have hts := C.2.2.2.2.1
  have hKK := C.2.2.2.2.2.2.2.2.1
  have hc : (nI N).toNatClampNeg = N := nI_clamp (by omega)
  refine W.anew C.1 C.2.1 C.2.2.2.1 (hts _ (List.mem_cons_of_mem _ hw)) (va_AO.use (hKK.over h11 h15 hC)) rfl hd rfl (nI_pos (by omega)) (by rw [hc]; omega) (by omega) (by rw [hc]; omega) fun cA kA comp f1 f2 f3 f4 => ?_
  rw [hc, hH.2.2.1]
  have hRA := (hKK.arr (ci := ci) (by omega) h15).2
  rw [hC] at hRA
  obtain ⟨kA', comp', -, -, -, k4⟩ := hRA
  have : cA = eC E ci := Option.some.inj (f1.symm.trans k4)
  subst this
  generalize hH1 : H.push ({ cls := eC E ci, slots := Array.replicate N .null, vm := .none } : Cell) = H1
  have z1 : H1.size = H.size + 1 := by rw [← hH1, Array.size_push]
  have e1 : H1[H.size]? = some (arrV (eC E ci) N (fun _ => .null)) := by rw [← hH1, Array.getElem?_push_size, ← arrV_new]
  have o1 : ∀ q : Nat, q < H.size → H1[q]? = H[q]? := fun q hq => by rw [← hH1, Array.getElem?_push, if_neg (Nat.ne_of_lt hq)]
  refine kk p e s m args below meth c H1 locs (cells + 1) (slots + N) ls C (hH.new ?_ z1 o1) (hS.app1 z1 o1) hL (by omega) (by omega)
  have hz : (fun j : Nat => va_rf ((sN h).2.2.2.1 (hn h) j)) = fun _ => .null := by funext j; simp [sN, va_rf]
  rw [ent_ref hk h11]
  show H1[hn h]? = some (vp_cell _ _)
  rw [vp_cell_q, hl, hz, ← hH.2.2.1]
  exact e1
theorem G_objInit (pc' : Nat) (hp : pc + 3 = pc') {a idx : Nat} (hw : Cond.methodLink M.1 idx objectInit ∈ lw_good) (hw2 : Cond.instanceMethod objectInit ∈ lw_good) (hw3 : Cond.code objectInit ⟨#[0xb1]⟩ 1 none ∈ lw_good) (hst : (st.map fun v => v.category).sum ≤ 8) (hR : 1 ≤ R.frames ∧ 20 ≤ R.locals) (hd : decode M.2.2.1 pc = .ok (.invokespecial idx, 3)) (kk : G E M R Post pc' L st h ac as) : G E M R Post pc L (.ref a :: st) h ac as := by
  subst hp
  intro p e s m args below meth c H locs cells slots ls C hH hS hL h1 h2
  have hts := C.2.2.2.2.1
  refine W.objInit C.1 C.2.1 C.2.2.2.1 (hts _ (List.mem_cons_of_mem _ hw)) (hts _ (List.mem_cons_of_mem _ hw2)) (hts _ (List.mem_cons_of_mem _ hw3)) rfl (hL.1.trans C.2.2.1.symm) rfl hd hR.1 ?_ (kk p e s m args below meth c H locs cells slots ls C hH hS hL h1 h2)
  show 2 * 0 + _ + 12 ≤ R.locals
  omega
end ARRAYS
end
section
section CALLS
variable {E : Ev} {M : MD} {R : Room} {Post : Option Value → Hp → Prop} {pc : Nat} {L : List (Option Value)} {st : List Value} {h : Hp} {ac as : Nat}
/-! ===== calls: a method's own words, and the four ways to it ===== -/
def rk (r mc ms : Nat) : Room := { frames := r, cells := mc, slots := ms, locals := 32 * r }
def OkM (M : MD) (n : Nat) : Prop := M.2.1.cls = M.1 ∧ (M.1 ≠ "java/lang/invoke/MethodHandle" ∧ M.1 ≠ "java/lang/invoke/VarHandle") ∧ (parseMethodDescriptor M.2.1.desc).map (fun d => d.parameters.length) = some n ∧ Cond.code M.2.1 M.2.2.1 M.2.2.2.1 M.2.2.2.2 ∈ lw_good ∧ Cond.initialized M.1 ∈ lw_good
def OkV (M : MD) : Prop := Cond.instanceMethod M.2.1 ∈ lw_good ∧ Cond.selects M.1 M.2.1 M.2.1 ∈ lw_good
theorem good_in {w : Cond} (hw : w ∈ lw_good) : (w.onTables && w.keeps) = true ∨ ∃ ty, w = .arrayClass ty := good_of_word (List.mem_filter.mp hw).2
theorem WS_in {M M' : MD} (hc : Cond.code M'.2.1 M'.2.2.1 M'.2.2.2.1 M'.2.2.2.2 ∈ lw_good) : GoodIn (WS M) (WS M') := by
  intro w hw
  rcases List.mem_cons.mp hw with rfl | hw
  · exact ⟨List.mem_cons_of_mem _ hc, good_in hc⟩
  · exact ⟨List.mem_cons_of_mem _ hw, good_in hw⟩
theorem Pc_blind {args : List Value} {h : Hp} : FrameBlind (va_Pc args (fun U => KK E U ∧ eB E ≤ U.heap.size ∧ HH E U h U.heap)) := fun a U g mk q => ⟨q.1, KK.same (u := U) (U := U.calling g mk a) rfl q.2.1, q.2.2.1, q.2.2.2.moved (Vm.Alike.refl U.vm)⟩
theorem Pc_now {args : List Value} {s U : State} {H : Heap} (hKK : KK E s) (hB : eB E ≤ s.heap.size) {locs : List Loc} (hS : va_S (eA E) s.heap H locs) (hH : HH E s h H) (hU : U.heap = H) (hW : s.WarmedH U.vm) : va_Pc args (fun U => KK E U ∧ eB E ≤ U.heap.size ∧ HH E U h U.heap) args.toArray U :=
  ⟨rfl, hKK.moved hW, by rw [hU]; exact Nat.le_trans hB hS.1, by rw [hU]; exact hH.moved hW.alike⟩
theorem G_after {p : Program} {e : Env} {s : State} {m : MethodId} {args : Array Value} {below : List Frame} {meth : Method} {c : Code} {H : Heap} {locs : List Loc} {cells slots mc ms ac' as' : Nat} {ls : Array Slot} {stk : List Value} {Q : Option Value → Hp → Prop} {aa : Array Value}
    (C : CX E M p s m args meth c) (hS : va_S (eA E) s.heap H locs) (hL : LH ls M.2.2.2.1 L) (h1 : cells + ac = R.cells) (h2 : slots + as = R.slots) (hac : ac = ac' + mc) (has : as = as' + ms)
    (hr : va_Run p (eL E) e R s m args below meth c H locs cells slots mc ms (F0 m pc ls stk) st (QQ E Q aa) (eA E))
    (kk : ∀ (v : Option Value) (h' : Hp), Q v h' → G E M R Post (pc + 3) L (v.toList ++ st) h' ac' as') : W p (eL E) e R s m args below meth c H locs cells slots (MQ below (QQ E Post) args s R.cells R.slots (eA E)) (F0 m pc ls stk) := by
  intro T hT X
  obtain ⟨v, st₀, t, T', L', h0, X', hL', e1, e2, ⟨v', h', hv, hQ, hKt, hHt, hz, hk⟩, stp⟩ := hr T hT X
  cases hv
  rw [h0] at hz hk
  have hal : t.vm.Alike s.vm := by rw [← e2]; exact X'.warmed.alike.symm
  obtain ⟨t2, a1, b1⟩ := kk v h' hQ p e s m args below meth c T'.heap (locs ++ L') (cells + mc) (slots + ms) ls C (by rw [e1]; exact hHt.moved hal)
    ⟨Nat.le_trans hS.1 (by rw [e1]; exact hz), fun q g1 g2 => by rw [e1, hk q (Nat.lt_of_lt_of_le g1 hS.1) g2]; exact hS.2.1 q g1 g2, fun q hq => by
      rcases List.mem_append.mp hq with g | g
      · exact hS.2.2 q g
      · exact hL' q g⟩ hL (by omega) (by omega) T' rfl X'
  exact ⟨t2, stp t2 a1, b1⟩
theorem cb_recv {s : State} {H : Heap} {b ci : Nat} (hKK : KK E s) (hH : HH E s h H) (ho : Ob E h ci b) (hc : ci < 9) : ∃ cell : Cell, H[b]? = some cell ∧ cell.vm.isStatics = false ∧ s.vm.findClass (cT ci).1 = some cell.cls := by
  obtain ⟨cell, q1, q2, q3, -⟩ := hH.obj ho hc
  exact ⟨cell, q1, by rw [q3]; rfl, by rw [q2]; exact (hKK.1.1 ci _ (cT_at ci hc)).2.1⟩
theorem G_callV (pc' : Nat) (hp : pc + 3 = pc') {M' : MD} {R' : Room} {Q : Option Value → Hp → Prop} {idx ci n b ac' as' : Nat} {stk : List Value} (As : List Value) (cn : Cn E M' R' h (.ref b :: As) Q) (hm : OkM M' n) (hv : OkV M') (hw : Cond.methodLink M.1 idx M'.2.1 ∈ lw_good) (ho : Ob E h ci b) (hci : ci < 9 ∧ (cT ci).1 = M'.1) (hn : As.length = n) (hR : R'.frames + 1 ≤ R.frames ∧ 8 + (M'.2.2.2.1 + 11) + R'.locals ≤ R.locals) (hac : ac = ac' + R'.cells) (has : as = as' + R'.slots) (hs8 : (st.map fun v => v.category).sum ≤ 8) (hstk : stk = As.reverse ++ .ref b :: st) (hd : decode M.2.2.1 pc = .ok (.invokevirtual idx, 3))
    (kk : ∀ (v : Option Value) (h' : Hp), Q v h' → G E M R Post pc' L (v.toList ++ st) h' ac' as') : G E M R Post pc L stk h ac as := by
  subst hp
  intro p e s m args below meth c H locs cells slots ls C hH hS hL h1 h2
  have hts := C.2.2.2.2.1
  have hKK := C.2.2.2.2.2.2.2.2.1
  obtain ⟨m1, m2, m3, m4, m5⟩ := hm
  have hT : GoodIn (WS M) (wsV M.1 idx M'.1 M'.2.1 (WS M')) := by
    intro w hw'
    unfold wsV at hw'
    rcases List.mem_append.mp hw' with q | q
    · simp only [List.mem_cons, List.not_mem_nil, or_false] at q
      rcases q with rfl | rfl | rfl | rfl
      · exact ⟨List.mem_cons_of_mem _ hw, good_in hw⟩
      · exact ⟨List.mem_cons_of_mem _ hv.1, good_in hv.1⟩
      · exact ⟨List.mem_cons_of_mem _ hv.2, good_in hv.2⟩
      · exact ⟨List.mem_cons_of_mem _ m5, good_in m5⟩
    · exact WS_in m4 w q
  refine G_after C hS hL h1 h2 hac has (va_runV (As := As) (rest := st) (b := b) ⟨C.1, C.2.1, C.2.2.1, C.2.2.2.1, hts⟩ cn (cwV n hts hT rfl rfl rfl ⟨m1, by rw [m1]; exact m2.1, by rw [m1]; exact m2.2, m3⟩ hR) ⟨Pc_blind, by rw [← hci.2]; exact cb_recv hKK hH ho hci.1, fun U hU hW => Pc_now hKK C.2.2.2.2.2.2.2.2.2 hS hH hU hW⟩ rfl hn hL.1 hstk (lv_room hs8) hd ⟨by omega, by omega⟩) kk
theorem G_callS (pc' : Nat) (hp : pc + 3 = pc') {M' : MD} {R' : Room} {Q : Option Value → Hp → Prop} {idx n ac' as' : Nat} {stk : List Value} (As : List Value) (cn : Cn E M' R' h As Q) (hm : OkM M' n) (hv : Cond.static M'.2.1 ∈ lw_good) (hw : Cond.methodLink M.1 idx M'.2.1 ∈ lw_good) (hn : As.length = n) (hR : R'.frames + 1 ≤ R.frames ∧ 8 + (M'.2.2.2.1 + 11) + R'.locals ≤ R.locals) (hac : ac = ac' + R'.cells) (has : as = as' + R'.slots) (hs8 : (st.map fun v => v.category).sum ≤ 8) (hstk : stk = As.reverse ++ st) (hd : decode M.2.2.1 pc = .ok (.invokestatic idx, 3))
    (kk : ∀ (v : Option Value) (h' : Hp), Q v h' → G E M R Post pc' L (v.toList ++ st) h' ac' as') : G E M R Post pc L stk h ac as := by
  subst hp
  intro p e s m args below meth c H locs cells slots ls C hH hS hL h1 h2
  have hts := C.2.2.2.2.1
  have hKK := C.2.2.2.2.2.2.2.2.1
  obtain ⟨m1, m2, m3, m4, m5⟩ := hm
  have hT : GoodIn (WS M) (va_wsS M.1 idx M'.2.1 (WS M')) := by
    intro w hw'
    unfold va_wsS at hw'
    rcases List.mem_append.mp hw' with q | q
    · simp only [List.mem_cons, List.not_mem_nil, or_false] at q
      rcases q with rfl | rfl | rfl
      · exact ⟨List.mem_cons_of_mem _ hw, good_in hw⟩
      · exact ⟨List.mem_cons_of_mem _ hv, good_in hv⟩
      · rw [m1]; exact ⟨List.mem_cons_of_mem _ m5, good_in m5⟩
    · exact WS_in m4 w q
  refine G_after C hS hL h1 h2 hac has (va_runS (As := As) (rest := st) ⟨C.1, C.2.1, C.2.2.1, C.2.2.2.1, hts⟩ cn (va_cwS n hts hT rfl rfl rfl ⟨by rw [m1]; exact m2.1, by rw [m1]; exact m2.2, m3⟩ hR) ⟨Pc_blind, fun U hU hW => Pc_now hKK C.2.2.2.2.2.2.2.2.2 hS hH hU hW⟩ rfl hn hL.1 hstk (lv_room hs8) hd ⟨by omega, by omega⟩) kk
theorem G_callI (pc' : Nat) (hp : pc + 3 = pc') {M' : MD} {R' : Room} {Q : Option Value → Hp → Prop} {idx n b ac' as' : Nat} {stk : List Value} (As : List Value) (cn : Cn E M' R' h (.ref b :: As) Q) (hm : OkM M' n) (hv : Cond.instanceMethod M'.2.1 ∈ lw_good) (hret : M'.2.2.2.2 = none) (hini : M'.2.1.name = "<init>") (hw : Cond.methodLink M.1 idx M'.2.1 ∈ lw_good) (hn : As.length = n) (hR : R'.frames + 1 ≤ R.frames ∧ 8 + (M'.2.2.2.1 + 11) + R'.locals ≤ R.locals) (hac : ac = ac' + R'.cells) (has : as = as' + R'.slots) (hs8 : (st.map fun v => v.category).sum ≤ 8) (hstk : stk = As.reverse ++ .ref b :: st) (hd : decode M.2.2.1 pc = .ok (.invokespecial idx, 3))
    (kk : ∀ (v : Option Value) (h' : Hp), Q v h' → G E M R Post pc' L (v.toList ++ st) h' ac' as') : G E M R Post pc L stk h ac as := by
  subst hp
  intro p e s m args below meth c H locs cells slots ls C hH hS hL h1 h2
  have hts := C.2.2.2.2.1
  have hKK := C.2.2.2.2.2.2.2.2.1
  obtain ⟨m1, m2, m3, m4, m5⟩ := hm
  refine G_after C hS hL h1 h2 hac has (va_runI (As := As) (rest := st) (b := b) ⟨C.1, C.2.1, C.2.2.1, C.2.2.2.1, hts⟩ cn (cwI n hts (WS_in m4) (by unfold WS; rw [hret]) rfl rfl (by rw [m1]; exact hts _ (List.mem_cons_of_mem _ m5)) (hts _ (List.mem_cons_of_mem _ hw)) (hts _ (List.mem_cons_of_mem _ hv)) hini ⟨by rw [m1]; exact m2.1, by rw [m1]; exact m2.2, m3⟩ hR) ⟨Pc_blind, fun U hU hW => Pc_now hKK C.2.2.2.2.2.2.2.2.2 hS hH hU hW⟩ rfl hn hL.1 hstk (lv_room hs8) hd ⟨by omega, by omega⟩) kk
theorem G_callN (pc' : Nat) (hp : pc + 3 = pc') {M' : MD} {R' : Room} {Q : Option Value → Hp → Prop} {idx n b ac' as' : Nat} {host : String} {stk : List Value} (As : List Value) (cn : Cn E M' R' h (.ref b :: As) Q) (hm : OkM M' n) (hv : Cond.instanceMethod M'.2.1 ∈ lw_good) (hret : M'.2.2.2.2 = none) (hini : M'.2.1.name = "<init>") (hw : Cond.methodLinkNest M.1 idx M'.2.1 host ∈ lw_tbl) (hn : As.length = n) (hR : R'.frames + 1 ≤ R.frames ∧ 8 + (M'.2.2.2.1 + 11) + R'.locals ≤ R.locals) (hac : ac = ac' + R'.cells) (has : as = as' + R'.slots) (hs8 : (st.map fun v => v.category).sum ≤ 8) (hstk : stk = As.reverse ++ .ref b :: st) (hd : decode M.2.2.1 pc = .ok (.invokespecial idx, 3))
    (kk : ∀ (v : Option Value) (h' : Hp), Q v h' → G E M R Post pc' L (v.toList ++ st) h' ac' as') : G E M R Post pc L stk h ac as := by
  subst hp
  intro p e s m args below meth c H locs cells slots ls C hH hS hL h1 h2
  have hts := C.2.2.2.2.1
  have hKK := C.2.2.2.2.2.2.2.2.1
  obtain ⟨m1, m2, m3, m4, m5⟩ := hm
  refine G_after C hS hL h1 h2 hac has (va_runIN (As := As) (rest := st) (b := b) ⟨C.1, C.2.1, C.2.2.1, C.2.2.2.1, hts⟩ cn ⟨va_cnB n hts (WS_in m4) (by unfold WS; rw [hret]) rfl rfl (hKK.2.2 _ hw ⟨_, _, _, _, rfl⟩) (by rw [m1]; exact hts _ (List.mem_cons_of_mem _ m5)) ⟨by rw [m1]; exact m2.1, by rw [m1]; exact m2.2, m3⟩ hR, hini, hts _ (List.mem_cons_of_mem _ hv)⟩ ⟨Pc_blind, fun U hU hW => Pc_now hKK C.2.2.2.2.2.2.2.2.2 hS hH hU hW⟩ rfl hn hL.1 hstk (lv_room hs8) hd ⟨by omega, by omega⟩) kk
end CALLS
end
section
theorem gm {w : Cond} (t : Nat) (hi : lw_tbl[t]? = some w) (hg : goodWord w = true) : w ∈ lw_good := List.mem_filter.mpr ⟨List.mem_of_getElem? hi, hg⟩
abbrev mJ9_max_7cf53 : MD := (RJ9, yJ9_max_7cf53, cJ9_max_7cf53, 2, (some .int))
abbrev mJ9_min_7cf53 : MD := (RJ9, yJ9_min_7cf53, cJ9_min_7cf53, 2, (some .int))
abbrev mL_cell : MD := (RL, yL_cell, cL_cell, 2, (some .int))
abbrev mL_law : MD := (RL, yL_law, cL_law, 4, (some .boolean))
abbrev mX0_init : MD := (RX0, yX0_init, cX0_init, 5, none)
abbrev mX0_part : MD := (RX0, yX0_part, cX0_part, 2, (some .int))
abbrev mX1_append : MD := (RX1, yX1_append, cX1_append, 2, none)
abbrev mX1_at : MD := (RX1, yX1_at, cX1_at, 2, (some (.object "ChoiceBench$Entry")))
abbrev mX1_drop : MD := (RX1, yX1_drop, cX1_drop, 5, none)
abbrev mX1_firstAbove : MD := (RX1, yX1_firstAbove, cX1_firstAbove, 4, (some (.object "ChoiceBench$Entry")))
abbrev mX1_init : MD := (RX1, yX1_init, cX1_init, 1, none)
abbrev mX2_init : MD := (RX2, yX2_init, cX2_init, 1, none)
abbrev mX2_matches : MD := (RX2, yX2_matches, cX2_matches, 2, (some .boolean))
abbrev mX3_init : MD := (RX3, yX3_init, cX3_init, 1, none)
abbrev mX3_part : MD := (RX3, yX3_part, cX3_part, 2, (some .int))
abbrev mX3_set : MD := (RX3, yX3_set, cX3_set, 5, none)
abbrev mX4_add : MD := (RX4, yX4_add, cX4_add, 7, none)
abbrev mX4_init : MD := (RX4, yX4_init, cX4_init, 1, none)
abbrev mX4_part : MD := (RX4, yX4_part, cX4_part, 3, (some .int))
abbrev mX5_addGuard : MD := (RX5, yX5_addGuard, cX5_addGuard, 6, (some .boolean))
abbrev mX5_becomeIdle : MD := (RX5, yX5_becomeIdle, cX5_becomeIdle, 1, none)
abbrev mX5_beginOffer : MD := (RX5, yX5_beginOffer, cX5_beginOffer, 3, none)
abbrev mX5_beginWithdraw : MD := (RX5, yX5_beginWithdraw, cX5_beginWithdraw, 1, none)
abbrev mX5_currentGuard : MD := (RX5, yX5_currentGuard, cX5_currentGuard, 1, (some (.object "ChoiceBench$Guard")))
abbrev mX5_endLooking : MD := (RX5, yX5_endLooking, cX5_endLooking, 1, none)
abbrev mX5_firstEntry : MD := (RX5, yX5_firstEntry, cX5_firstEntry, 1, (some (.object "ChoiceBench$Entry")))
abbrev mX5_heedsTime : MD := (RX5, yX5_heedsTime, cX5_heedsTime, 1, (some .boolean))
abbrev mX5_init : MD := (RX5, yX5_init, cX5_init, 3, none)
abbrev mX5_isClaiming : MD := (RX5, yX5_isClaiming, cX5_isClaiming, 1, (some .boolean))
abbrev mX5_isDue : MD := (RX5, yX5_isDue, cX5_isDue, 2, (some .boolean))
abbrev mX5_isOffering : MD := (RX5, yX5_isOffering, cX5_isOffering, 1, (some .boolean))
abbrev mX5_keepEntry : MD := (RX5, yX5_keepEntry, cX5_keepEntry, 2, none)
abbrev mX5_lookAt : MD := (RX5, yX5_lookAt, cX5_lookAt, 2, none)
abbrev mX5_lookAtNext : MD := (RX5, yX5_lookAtNext, cX5_lookAtNext, 2, none)
abbrev mX5_lookFromFirst : MD := (RX5, yX5_lookFromFirst, cX5_lookFromFirst, 2, none)
abbrev mX5_matches : MD := (RX5, yX5_matches, cX5_matches, 4, (some .boolean))
abbrev mX5_nextOn : MD := (RX5, yX5_nextOn, cX5_nextOn, 3, (some .int))
abbrev mX5_standing : MD := (RX5, yX5_standing, cX5_standing, 1, (some .int))
abbrev mX5_wakeIfSettled : MD := (RX5, yX5_wakeIfSettled, cX5_wakeIfSettled, 1, none)
abbrev mX6_become : MD := (RX6, yX6_become, cX6_become, 2, none)
abbrev mX6_claimFor : MD := (RX6, yX6_claimFor, cX6_claimFor, 2, none)
abbrev mX6_init : MD := (RX6, yX6_init, cX6_init, 1, none)
abbrev mX6_isAt : MD := (RX6, yX6_isAt, cX6_isAt, 3, (some .boolean))
abbrev mX6_isSettled : MD := (RX6, yX6_isSettled, cX6_isSettled, 1, (some .boolean))
abbrev mX6_part : MD := (RX6, yX6_part, cX6_part, 2, (some .int))
abbrev mX7_access : MD := (RX7, yX7_access, cX7_access, 2, none)
abbrev mX7_accessToMeet : MD := (RX7, yX7_accessToMeet, cX7_accessToMeet, 5, none)
abbrev mX7_cancel : MD := (RX7, yX7_cancel, cX7_cancel, 3, (some .boolean))
abbrev mX7_claimHigher : MD := (RX7, yX7_claimHigher, cX7_claimHigher, 6, none)
abbrev mX7_claimLower : MD := (RX7, yX7_claimLower, cX7_claimLower, 5, none)
abbrev mX7_count : MD := (RX7, yX7_count, cX7_count, 2, (some .int))
abbrev mX7_doubles : MD := (RX7, yX7_doubles, cX7_doubles, 1, (some .int))
abbrev mX7_entry : MD := (RX7, yX7_entry, cX7_entry, 6, (some .int))
abbrev mX7_finish : MD := (RX7, yX7_finish, cX7_finish, 3, (some .boolean))
abbrev mX7_giveBack : MD := (RX7, yX7_giveBack, cX7_giveBack, 4, none)
abbrev mX7_guard : MD := (RX7, yX7_guard, cX7_guard, 7, (some .boolean))
abbrev mX7_held : MD := (RX7, yX7_held, cX7_held, 5, (some .int))
abbrev mX7_init : MD := (RX7, yX7_init, cX7_init, 4, none)
abbrev mX7_listAt : MD := (RX7, yX7_listAt, cX7_listAt, 2, (some (.object "ChoiceBench$EntryList")))
abbrev mX7_listed : MD := (RX7, yX7_listed, cX7_listed, 3, (some .int))
abbrev mX7_lookOn : MD := (RX7, yX7_lookOn, cX7_lookOn, 5, none)
abbrev mX7_noteBusy : MD := (RX7, yX7_noteBusy, cX7_noteBusy, 3, none)
abbrev mX7_noteDouble : MD := (RX7, yX7_noteDouble, cX7_noteDouble, 3, none)
abbrev mX7_offer : MD := (RX7, yX7_offer, cX7_offer, 3, (some .boolean))
abbrev mX7_outcome : MD := (RX7, yX7_outcome, cX7_outcome, 4, (some .int))
abbrev mX7_pair : MD := (RX7, yX7_pair, cX7_pair, 3, (some .int))
abbrev mX7_phase : MD := (RX7, yX7_phase, cX7_phase, 3, (some .int))
abbrev mX7_present : MD := (RX7, yX7_present, cX7_present, 3, (some .int))
abbrev mX7_procAt : MD := (RX7, yX7_procAt, cX7_procAt, 2, (some (.object "ChoiceBench$Proc")))
abbrev mX7_procIn : MD := (RX7, yX7_procIn, cX7_procIn, 4, (some (.object "ChoiceBench$Proc")))
abbrev mX7_publishEntry : MD := (RX7, yX7_publishEntry, cX7_publishEntry, 5, none)
abbrev mX7_putOut : MD := (RX7, yX7_putOut, cX7_putOut, 3, none)
abbrev mX7_quit : MD := (RX7, yX7_quit, cX7_quit, 3, (some .boolean))
abbrev mX7_recordPair : MD := (RX7, yX7_recordPair, cX7_recordPair, 5, none)
abbrev mX7_run : MD := (RX7, yX7_run, cX7_run, 8, (some .int))
abbrev mX7_runOutOfTime : MD := (RX7, yX7_runOutOfTime, cX7_runOutOfTime, 2, none)
abbrev mX7_sleepUnmet : MD := (RX7, yX7_sleepUnmet, cX7_sleepUnmet, 2, (some .boolean))
abbrev mX7_spawn : MD := (RX7, yX7_spawn, cX7_spawn, 3, (some .boolean))
abbrev mX7_step : MD := (RX7, yX7_step, cX7_step, 3, (some .int))
abbrev mX7_takeOwn : MD := (RX7, yX7_takeOwn, cX7_takeOwn, 4, none)
abbrev mX7_tellOther : MD := (RX7, yX7_tellOther, cX7_tellOther, 4, none)
abbrev mX7_tick : MD := (RX7, yX7_tick, cX7_tick, 1, (some .int))
abbrev mX7_timeout : MD := (RX7, yX7_timeout, cX7_timeout, 4, (some .boolean))
abbrev mX7_tryWord : MD := (RX7, yX7_tryWord, cX7_tryWord, 4, (some .boolean))
abbrev mX7_unmet : MD := (RX7, yX7_unmet, cX7_unmet, 4, (some .int))
abbrev mX7_versionSought : MD := (RX7, yX7_versionSought, cX7_versionSought, 3, (some .int))
abbrev mX7_withdrawEntry : MD := (RX7, yX7_withdrawEntry, cX7_withdrawEntry, 4, none)
abbrev mX7_word : MD := (RX7, yX7_word, cX7_word, 4, (some .int))
abbrev mX8_cancel : MD := (RX8, yX8_cancel, cX8_cancel, 3, (some .boolean))
abbrev mX8_claims : MD := (RX8, yX8_claims, cX8_claims, 4, none)
abbrev mX8_count : MD := (RX8, yX8_count, cX8_count, 4, (some .int))
abbrev mX8_doubles : MD := (RX8, yX8_doubles, cX8_doubles, 3, (some .int))
abbrev mX8_empties : MD := (RX8, yX8_empties, cX8_empties, 2, none)
abbrev mX8_ends : MD := (RX8, yX8_ends, cX8_ends, 2, none)
abbrev mX8_entry : MD := (RX8, yX8_entry, cX8_entry, 6, (some .int))
abbrev mX8_finish : MD := (RX8, yX8_finish, cX8_finish, 2, (some .boolean))
abbrev mX8_goesOut : MD := (RX8, yX8_goesOut, cX8_goesOut, 2, none)
abbrev mX8_guard : MD := (RX8, yX8_guard, cX8_guard, 7, (some .boolean))
abbrev mX8_held : MD := (RX8, yX8_held, cX8_held, 4, (some .int))
abbrev mX8_how : MD := (RX8, yX8_how, cX8_how, 2, (some .int))
abbrev mX8_init : MD := (RX8, yX8_init, cX8_init, 2, none)
abbrev mX8_isBusy : MD := (RX8, yX8_isBusy, cX8_isBusy, 4, none)
abbrev mX8_isDue : MD := (RX8, yX8_isDue, cX8_isDue, 3, (some .boolean))
abbrev mX8_isEnded : MD := (RX8, yX8_isEnded, cX8_isEnded, 2, (some .boolean))
abbrev mX8_isIn : MD := (RX8, yX8_isIn, cX8_isIn, 3, (some .boolean))
abbrev mX8_isOffering : MD := (RX8, yX8_isOffering, cX8_isOffering, 2, (some .boolean))
abbrev mX8_isOne : MD := (RX8, yX8_isOne, cX8_isOne, 2, (some .boolean))
abbrev mX8_isUnmet : MD := (RX8, yX8_isUnmet, cX8_isUnmet, 2, (some .boolean))
abbrev mX8_looks : MD := (RX8, yX8_looks, cX8_looks, 4, none)
abbrev mX8_looksOn : MD := (RX8, yX8_looksOn, cX8_looksOn, 3, none)
abbrev mX8_match : MD := (RX8, yX8_match, cX8_match, 6, (some .boolean))
abbrev mX8_meets : MD := (RX8, yX8_meets, cX8_meets, 5, none)
abbrev mX8_offer : MD := (RX8, yX8_offer, cX8_offer, 2, (some .boolean))
abbrev mX8_onBehind : MD := (RX8, yX8_onBehind, cX8_onBehind, 4, (some .int))
abbrev mX8_outcome : MD := (RX8, yX8_outcome, cX8_outcome, 3, (some .int))
abbrev mX8_ownEntry : MD := (RX8, yX8_ownEntry, cX8_ownEntry, 3, (some .int))
abbrev mX8_pair : MD := (RX8, yX8_pair, cX8_pair, 3, (some .int))
abbrev mX8_phase : MD := (RX8, yX8_phase, cX8_phase, 2, (some .int))
abbrev mX8_publishes : MD := (RX8, yX8_publishes, cX8_publishes, 3, none)
abbrev mX8_quit : MD := (RX8, yX8_quit, cX8_quit, 2, (some .boolean))
abbrev mX8_removes : MD := (RX8, yX8_removes, cX8_removes, 3, none)
abbrev mX8_rests : MD := (RX8, yX8_rests, cX8_rests, 2, none)
abbrev mX8_run : MD := (RX8, yX8_run, cX8_run, 7, (some .int))
abbrev mX8_seconds : MD := (RX8, yX8_seconds, cX8_seconds, 4, none)
abbrev mX8_spawn : MD := (RX8, yX8_spawn, cX8_spawn, 2, (some .boolean))
abbrev mX8_step : MD := (RX8, yX8_step, cX8_step, 2, (some .int))
abbrev mX8_tells : MD := (RX8, yX8_tells, cX8_tells, 4, none)
abbrev mX8_tick : MD := (RX8, yX8_tick, cX8_tick, 1, (some .int))
abbrev mX8_timeout : MD := (RX8, yX8_timeout, cX8_timeout, 3, (some .boolean))
abbrev mX8_tries : MD := (RX8, yX8_tries, cX8_tries, 4, (some .boolean))
abbrev mX8_turns : MD := (RX8, yX8_turns, cX8_turns, 3, none)
abbrev mX8_unmet : MD := (RX8, yX8_unmet, cX8_unmet, 4, (some .int))
abbrev mX8_versionOf : MD := (RX8, yX8_versionOf, cX8_versionOf, 3, (some .int))
abbrev mX8_withdraws : MD := (RX8, yX8_withdraws, cX8_withdraws, 2, none)
abbrev mX8_word : MD := (RX8, yX8_word, cX8_word, 3, (some .int))
theorem cl_L_7 : Cond.classLink RL 7 RX7 ∈ lw_good := gm 58 (by decide +kernel) rfl
theorem ml_L_15 : Cond.methodLink RL 15 yX7_init ∈ lw_good := gm 60 (by decide +kernel) rfl
theorem ml_X7_3 : Cond.methodLink RX7 3 objectInit ∈ lw_good := gm 63 (by decide +kernel) rfl
theorem ml_X7_9 : Cond.methodLink RX7 9 yJ9_min_7cf53 ∈ lw_good := gm 66 (by decide +kernel) rfl
theorem ml_X7_15 : Cond.methodLink RX7 15 yJ9_max_7cf53 ∈ lw_good := gm 69 (by decide +kernel) rfl
theorem cl_X7_18 : Cond.classLink RX7 18 RX5 ∈ lw_good := gm 72 (by decide +kernel) rfl
theorem ml_X7_24 : Cond.methodLink RX7 24 yX5_init ∈ lw_good := gm 75 (by decide +kernel) rfl
theorem ml_X5_3 : Cond.methodLink RX5 3 objectInit ∈ lw_good := gm 78 (by decide +kernel) rfl
theorem cl_X5_9 : Cond.classLink RX5 9 RX6 ∈ lw_good := gm 79 (by decide +kernel) rfl
theorem mn_X5_11 : Cond.methodLinkNest RX5 11 yX6_init "ChoiceBench" ∈ lw_tbl := List.mem_of_getElem? (i := 81) (by decide +kernel)
theorem ml_X6_3 : Cond.methodLink RX6 3 objectInit ∈ lw_good := gm 84 (by decide +kernel) rfl
theorem fl_X6_9 : FL RX6 9 6 0 := ⟨by decide, by decide, gm 85 (by decide +kernel) rfl⟩
theorem fl_X7_94 : FL RX7 94 6 0 := ⟨by decide, by decide, gm 86 (by decide +kernel) rfl⟩
theorem fl_X5_115 : FL RX5 115 6 0 := ⟨by decide, by decide, gm 87 (by decide +kernel) rfl⟩
theorem fl_X4_45 : FL RX4 45 6 1 := ⟨by decide, by decide, gm 88 (by decide +kernel) rfl⟩
theorem fl_X5_67 : FL RX5 67 6 1 := ⟨by decide, by decide, gm 89 (by decide +kernel) rfl⟩
theorem fl_X6_18 : FL RX6 18 6 1 := ⟨by decide, by decide, gm 90 (by decide +kernel) rfl⟩
theorem fl_X7_67 : FL RX7 67 6 1 := ⟨by decide, by decide, gm 91 (by decide +kernel) rfl⟩
theorem fl_X6_15 : FL RX6 15 6 2 := ⟨by decide, by decide, gm 92 (by decide +kernel) rfl⟩
theorem fl_X7_141 : FL RX7 141 6 2 := ⟨by decide, by decide, gm 93 (by decide +kernel) rfl⟩
theorem cl_X5_18 : Cond.classLink RX5 18 RX3 ∈ lw_good := gm 101 (by decide +kernel) rfl
theorem mn_X5_20 : Cond.methodLinkNest RX5 20 yX3_init "ChoiceBench" ∈ lw_tbl := List.mem_of_getElem? (i := 103) (by decide +kernel)
theorem ml_X3_3 : Cond.methodLink RX3 3 objectInit ∈ lw_good := gm 106 (by decide +kernel) rfl
theorem fl_X3_9 : FL RX3 9 3 0 := ⟨by decide, by decide, gm 107 (by decide +kernel) rfl⟩
theorem fl_X3_15 : FL RX3 15 3 1 := ⟨by decide, by decide, gm 108 (by decide +kernel) rfl⟩
theorem fl_X3_19 : FL RX3 19 3 2 := ⟨by decide, by decide, gm 109 (by decide +kernel) rfl⟩
theorem fl_X3_22 : FL RX3 22 3 3 := ⟨by decide, by decide, gm 110 (by decide +kernel) rfl⟩
theorem fl_X3_25 : FL RX3 25 3 4 := ⟨by decide, by decide, gm 111 (by decide +kernel) rfl⟩
theorem cl_X5_25 : Cond.classLink RX5 25 RX2 ∈ lw_good := gm 123 (by decide +kernel) rfl
theorem cl_X5_31 : Cond.classLink RX5 31 RX0 ∈ lw_good := gm 125 (by decide +kernel) rfl
theorem mn_X5_47 : Cond.methodLinkNest RX5 47 yX2_init "ChoiceBench" ∈ lw_tbl := List.mem_of_getElem? (i := 128) (by decide +kernel)
theorem ml_X2_1 : Cond.methodLink RX2 1 objectInit ∈ lw_good := gm 131 (by decide +kernel) rfl
theorem fl_X0_18 : FL RX0 18 2 0 := ⟨by decide, by decide, gm 132 (by decide +kernel) rfl⟩
theorem fl_X4_19 : FL RX4 19 2 0 := ⟨by decide, by decide, gm 133 (by decide +kernel) rfl⟩
theorem fl_X2_17 : FL RX2 17 2 0 := ⟨by decide, by decide, gm 134 (by decide +kernel) rfl⟩
theorem fl_X5_54 : FL RX5 54 2 0 := ⟨by decide, by decide, gm 135 (by decide +kernel) rfl⟩
theorem fl_X7_273 : FL RX7 273 2 0 := ⟨by decide, by decide, gm 136 (by decide +kernel) rfl⟩
theorem fl_X0_24 : FL RX0 24 2 1 := ⟨by decide, by decide, gm 137 (by decide +kernel) rfl⟩
theorem fl_X2_13 : FL RX2 13 2 1 := ⟨by decide, by decide, gm 138 (by decide +kernel) rfl⟩
theorem fl_X4_34 : FL RX4 34 2 1 := ⟨by decide, by decide, gm 139 (by decide +kernel) rfl⟩
theorem fl_X5_57 : FL RX5 57 2 1 := ⟨by decide, by decide, gm 140 (by decide +kernel) rfl⟩
theorem fl_X7_236 : FL RX7 236 2 1 := ⟨by decide, by decide, gm 141 (by decide +kernel) rfl⟩
theorem fl_X0_28 : FL RX0 28 2 2 := ⟨by decide, by decide, gm 142 (by decide +kernel) rfl⟩
theorem fl_X4_37 : FL RX4 37 2 2 := ⟨by decide, by decide, gm 143 (by decide +kernel) rfl⟩
theorem fl_X5_60 : FL RX5 60 2 2 := ⟨by decide, by decide, gm 144 (by decide +kernel) rfl⟩
theorem fl_X7_290 : FL RX7 290 2 2 := ⟨by decide, by decide, gm 145 (by decide +kernel) rfl⟩
theorem fl_X2_7 : FL RX2 7 2 3 := ⟨by decide, by decide, gm 146 (by decide +kernel) rfl⟩
theorem fl_X5_63 : FL RX5 63 2 3 := ⟨by decide, by decide, gm 147 (by decide +kernel) rfl⟩
theorem fl_X5_44 : FL RX5 44 5 0 := ⟨by decide, by decide, gm 157 (by decide +kernel) rfl⟩
theorem fl_X4_24 : FL RX4 24 5 0 := ⟨by decide, by decide, gm 158 (by decide +kernel) rfl⟩
theorem fl_X7_241 : FL RX7 241 5 0 := ⟨by decide, by decide, gm 159 (by decide +kernel) rfl⟩
theorem fl_X5_12 : FL RX5 12 5 1 := ⟨by decide, by decide, gm 160 (by decide +kernel) rfl⟩
theorem fl_X4_41 : FL RX4 41 5 1 := ⟨by decide, by decide, gm 161 (by decide +kernel) rfl⟩
theorem fl_X7_63 : FL RX7 63 5 1 := ⟨by decide, by decide, gm 162 (by decide +kernel) rfl⟩
theorem fl_X5_21 : FL RX5 21 5 2 := ⟨by decide, by decide, gm 163 (by decide +kernel) rfl⟩
theorem fl_X7_118 : FL RX7 118 5 2 := ⟨by decide, by decide, gm 164 (by decide +kernel) rfl⟩
theorem fl_X5_27 : FL RX5 27 5 3 := ⟨by decide, by decide, gm 165 (by decide +kernel) rfl⟩
theorem fl_X5_33 : FL RX5 33 5 4 := ⟨by decide, by decide, gm 166 (by decide +kernel) rfl⟩
theorem fl_X5_37 : FL RX5 37 5 5 := ⟨by decide, by decide, gm 167 (by decide +kernel) rfl⟩
theorem fl_X7_48 : FL RX7 48 5 5 := ⟨by decide, by decide, gm 168 (by decide +kernel) rfl⟩
theorem fl_X5_48 : FL RX5 48 5 6 := ⟨by decide, by decide, gm 169 (by decide +kernel) rfl⟩
theorem fl_X5_51 : FL RX5 51 5 7 := ⟨by decide, by decide, gm 170 (by decide +kernel) rfl⟩
theorem fl_X7_60 : FL RX7 60 5 7 := ⟨by decide, by decide, gm 171 (by decide +kernel) rfl⟩
theorem fl_X5_41 : FL RX5 41 5 8 := ⟨by decide, by decide, gm 172 (by decide +kernel) rfl⟩
theorem fl_X5_112 : FL RX5 112 5 9 := ⟨by decide, by decide, gm 173 (by decide +kernel) rfl⟩
theorem fl_X7_254 : FL RX7 254 5 9 := ⟨by decide, by decide, gm 174 (by decide +kernel) rfl⟩
theorem fl_X5_119 : FL RX5 119 5 10 := ⟨by decide, by decide, gm 175 (by decide +kernel) rfl⟩
theorem fl_X7_262 : FL RX7 262 5 10 := ⟨by decide, by decide, gm 176 (by decide +kernel) rfl⟩
theorem fl_X5_80 : FL RX5 80 5 11 := ⟨by decide, by decide, gm 177 (by decide +kernel) rfl⟩
theorem fl_X7_199 : FL RX7 199 5 11 := ⟨by decide, by decide, gm 178 (by decide +kernel) rfl⟩
theorem fl_X5_74 : FL RX5 74 5 12 := ⟨by decide, by decide, gm 179 (by decide +kernel) rfl⟩
theorem fl_X7_320 : FL RX7 320 5 12 := ⟨by decide, by decide, gm 180 (by decide +kernel) rfl⟩
theorem fl_X5_77 : FL RX5 77 5 13 := ⟨by decide, by decide, gm 181 (by decide +kernel) rfl⟩
theorem fl_X7_287 : FL RX7 287 5 13 := ⟨by decide, by decide, gm 182 (by decide +kernel) rfl⟩
theorem fl_X5_84 : FL RX5 84 5 14 := ⟨by decide, by decide, gm 183 (by decide +kernel) rfl⟩
theorem fl_X7_226 : FL RX7 226 5 14 := ⟨by decide, by decide, gm 184 (by decide +kernel) rfl⟩
theorem fl_X5_87 : FL RX5 87 5 15 := ⟨by decide, by decide, gm 185 (by decide +kernel) rfl⟩
theorem fl_X5_90 : FL RX5 90 5 16 := ⟨by decide, by decide, gm 186 (by decide +kernel) rfl⟩
theorem fl_X7_306 : FL RX7 306 5 16 := ⟨by decide, by decide, gm 187 (by decide +kernel) rfl⟩
theorem fl_X5_93 : FL RX5 93 5 17 := ⟨by decide, by decide, gm 188 (by decide +kernel) rfl⟩
theorem fl_X7_328 : FL RX7 328 5 17 := ⟨by decide, by decide, gm 189 (by decide +kernel) rfl⟩
theorem fl_X5_96 : FL RX5 96 5 18 := ⟨by decide, by decide, gm 190 (by decide +kernel) rfl⟩
theorem fl_X7_229 : FL RX7 229 5 18 := ⟨by decide, by decide, gm 191 (by decide +kernel) rfl⟩
theorem fl_X5_99 : FL RX5 99 5 19 := ⟨by decide, by decide, gm 192 (by decide +kernel) rfl⟩
theorem fl_X7_331 : FL RX7 331 5 19 := ⟨by decide, by decide, gm 193 (by decide +kernel) rfl⟩
theorem cl_X7_27 : Cond.classLink RX7 27 RX1 ∈ lw_good := gm 235 (by decide +kernel) rfl
theorem mn_X7_33 : Cond.methodLinkNest RX7 33 yX1_init "ChoiceBench" ∈ lw_tbl := List.mem_of_getElem? (i := 238) (by decide +kernel)
theorem ml_X1_3 : Cond.methodLink RX1 3 objectInit ∈ lw_good := gm 241 (by decide +kernel) rfl
theorem cl_X1_9 : Cond.classLink RX1 9 RX0 ∈ lw_good := gm 242 (by decide +kernel) rfl
theorem fl_X1_11 : FL RX1 11 1 0 := ⟨by decide, by decide, gm 243 (by decide +kernel) rfl⟩
theorem fl_X1_17 : FL RX1 17 1 1 := ⟨by decide, by decide, gm 244 (by decide +kernel) rfl⟩
theorem fl_X7_162 : FL RX7 162 1 1 := ⟨by decide, by decide, gm 245 (by decide +kernel) rfl⟩
theorem cl_X7_34 : Cond.classLink RX7 34 RX4 ∈ lw_good := gm 251 (by decide +kernel) rfl
theorem mn_X7_36 : Cond.methodLinkNest RX7 36 yX4_init "ChoiceBench" ∈ lw_tbl := List.mem_of_getElem? (i := 253) (by decide +kernel)
theorem ml_X4_3 : Cond.methodLink RX4 3 objectInit ∈ lw_good := gm 256 (by decide +kernel) rfl
theorem fl_X4_9 : FL RX4 9 4 0 := ⟨by decide, by decide, gm 257 (by decide +kernel) rfl⟩
theorem fl_X4_15 : FL RX4 15 4 1 := ⟨by decide, by decide, gm 258 (by decide +kernel) rfl⟩
theorem fl_X7_110 : FL RX7 110 4 1 := ⟨by decide, by decide, gm 259 (by decide +kernel) rfl⟩
theorem fl_X7_20 : FL RX7 20 7 0 := ⟨by decide, by decide, gm 266 (by decide +kernel) rfl⟩
theorem fl_X7_29 : FL RX7 29 7 1 := ⟨by decide, by decide, gm 267 (by decide +kernel) rfl⟩
theorem fl_X7_37 : FL RX7 37 7 2 := ⟨by decide, by decide, gm 268 (by decide +kernel) rfl⟩
theorem fl_X7_72 : FL RX7 72 7 3 := ⟨by decide, by decide, gm 269 (by decide +kernel) rfl⟩
theorem fl_X7_147 : FL RX7 147 7 4 := ⟨by decide, by decide, gm 270 (by decide +kernel) rfl⟩
theorem fl_X7_153 : FL RX7 153 7 5 := ⟨by decide, by decide, gm 271 (by decide +kernel) rfl⟩
theorem fl_X7_156 : FL RX7 156 7 6 := ⟨by decide, by decide, gm 272 (by decide +kernel) rfl⟩
theorem fl_X7_159 : FL RX7 159 7 7 := ⟨by decide, by decide, gm 273 (by decide +kernel) rfl⟩
theorem fl_X7_134 : FL RX7 134 7 8 := ⟨by decide, by decide, gm 274 (by decide +kernel) rfl⟩
theorem ml_L_21 : Cond.methodLink RL 21 yX7_spawn ∈ lw_good := gm 294 (by decide +kernel) rfl
theorem ml_X7_41 : Cond.methodLink RX7 41 yX7_procIn ∈ lw_good := gm 298 (by decide +kernel) rfl
theorem ml_X7_78 : Cond.methodLink RX7 78 yX7_procAt ∈ lw_good := gm 302 (by decide +kernel) rfl
theorem ml_X7_45 : Cond.methodLink RX7 45 yX5_becomeIdle ∈ lw_good := gm 306 (by decide +kernel) rfl
theorem ml_L_26 : Cond.methodLink RL 26 yX7_quit ∈ lw_good := gm 310 (by decide +kernel) rfl
theorem ml_L_30 : Cond.methodLink RL 30 yX7_guard ∈ lw_good := gm 314 (by decide +kernel) rfl
theorem ml_X7_52 : Cond.methodLink RX7 52 yX7_listAt ∈ lw_good := gm 318 (by decide +kernel) rfl
theorem ml_X7_56 : Cond.methodLink RX7 56 yX5_addGuard ∈ lw_good := gm 322 (by decide +kernel) rfl
theorem ml_L_35 : Cond.methodLink RL 35 yX7_timeout ∈ lw_good := gm 326 (by decide +kernel) rfl
theorem ml_L_40 : Cond.methodLink RL 40 yX7_offer ∈ lw_good := gm 330 (by decide +kernel) rfl
theorem ml_X7_75 : Cond.methodLink RX7 75 yX5_beginOffer ∈ lw_good := gm 334 (by decide +kernel) rfl
theorem ml_X5_70 : Cond.methodLink RX5 70 yX6_become ∈ lw_good := gm 338 (by decide +kernel) rfl
theorem ml_X5_102 : Cond.methodLink RX5 102 yX5_nextOn ∈ lw_good := gm 342 (by decide +kernel) rfl
theorem ml_X5_106 : Cond.methodLink RX5 106 yJ9_max_7cf53 ∈ lw_good := gm 346 (by decide +kernel) rfl
theorem ml_L_44 : Cond.methodLink RL 44 yX7_step ∈ lw_good := gm 347 (by decide +kernel) rfl
theorem ml_X7_82 : Cond.methodLink RX7 82 yX5_isOffering ∈ lw_good := gm 351 (by decide +kernel) rfl
theorem ml_X7_86 : Cond.methodLink RX7 86 yX7_access ∈ lw_good := gm 355 (by decide +kernel) rfl
theorem ml_X7_167 : Cond.methodLink RX7 167 yX5_isDue ∈ lw_good := gm 359 (by decide +kernel) rfl
theorem ml_X7_171 : Cond.methodLink RX7 171 yX5_heedsTime ∈ lw_good := gm 363 (by decide +kernel) rfl
theorem ml_X7_174 : Cond.methodLink RX7 174 yX7_runOutOfTime ∈ lw_good := gm 367 (by decide +kernel) rfl
theorem ml_X7_97 : Cond.methodLink RX7 97 yX7_putOut ∈ lw_good := gm 371 (by decide +kernel) rfl
theorem ml_X7_107 : Cond.methodLink RX7 107 yX6_become ∈ lw_good := gm 375 (by decide +kernel) rfl
theorem ml_X7_233 : Cond.methodLink RX7 233 yX7_noteDouble ∈ lw_good := gm 376 (by decide +kernel) rfl
theorem ml_X7_104 : Cond.methodLink RX7 104 yX5_beginWithdraw ∈ lw_good := gm 380 (by decide +kernel) rfl
theorem ml_X5_132 : Cond.methodLink RX5 132 yX5_firstEntry ∈ lw_good := gm 384 (by decide +kernel) rfl
theorem ml_X7_177 : Cond.methodLink RX7 177 yX7_publishEntry ∈ lw_good := gm 388 (by decide +kernel) rfl
theorem ml_X7_195 : Cond.methodLink RX7 195 yX5_currentGuard ∈ lw_good := gm 392 (by decide +kernel) rfl
theorem cl_X7_130 : Cond.classLink RX7 130 RX0 ∈ lw_good := gm 396 (by decide +kernel) rfl
theorem ml_X7_244 : Cond.methodLink RX7 244 yX0_init ∈ lw_good := gm 398 (by decide +kernel) rfl
theorem ml_X0_3 : Cond.methodLink RX0 3 objectInit ∈ lw_good := gm 401 (by decide +kernel) rfl
theorem fl_X0_9 : FL RX0 9 0 0 := ⟨by decide, by decide, gm 402 (by decide +kernel) rfl⟩
theorem fl_X4_29 : FL RX4 29 0 0 := ⟨by decide, by decide, gm 403 (by decide +kernel) rfl⟩
theorem fl_X7_203 : FL RX7 203 0 0 := ⟨by decide, by decide, gm 404 (by decide +kernel) rfl⟩
theorem fl_X0_15 : FL RX0 15 0 1 := ⟨by decide, by decide, gm 405 (by decide +kernel) rfl⟩
theorem fl_X4_50 : FL RX4 50 0 1 := ⟨by decide, by decide, gm 406 (by decide +kernel) rfl⟩
theorem fl_X7_323 : FL RX7 323 0 1 := ⟨by decide, by decide, gm 407 (by decide +kernel) rfl⟩
theorem fl_X0_23 : FL RX0 23 0 2 := ⟨by decide, by decide, gm 408 (by decide +kernel) rfl⟩
theorem fl_X7_272 : FL RX7 272 0 2 := ⟨by decide, by decide, gm 409 (by decide +kernel) rfl⟩
theorem fl_X0_27 : FL RX0 27 0 3 := ⟨by decide, by decide, gm 410 (by decide +kernel) rfl⟩
theorem fl_X7_302 : FL RX7 302 0 3 := ⟨by decide, by decide, gm 411 (by decide +kernel) rfl⟩
theorem fl_X0_31 : FL RX0 31 0 4 := ⟨by decide, by decide, gm 412 (by decide +kernel) rfl⟩
theorem fl_X4_40 : FL RX4 40 0 4 := ⟨by decide, by decide, gm 413 (by decide +kernel) rfl⟩
theorem fl_X7_297 : FL RX7 297 0 4 := ⟨by decide, by decide, gm 414 (by decide +kernel) rfl⟩
theorem fl_X0_32 : FL RX0 32 0 5 := ⟨by decide, by decide, gm 415 (by decide +kernel) rfl⟩
theorem fl_X1_25 : FL RX1 25 0 5 := ⟨by decide, by decide, gm 416 (by decide +kernel) rfl⟩
theorem fl_X7_271 : FL RX7 271 0 5 := ⟨by decide, by decide, gm 417 (by decide +kernel) rfl⟩
theorem ml_X7_247 : Cond.methodLink RX7 247 yX1_append ∈ lw_good := gm 431 (by decide +kernel) rfl
theorem ml_X7_251 : Cond.methodLink RX7 251 yX5_keepEntry ∈ lw_good := gm 435 (by decide +kernel) rfl
theorem ml_X7_256 : Cond.methodLink RX7 256 yX5_nextOn ∈ lw_good := gm 439 (by decide +kernel) rfl
theorem ml_X7_259 : Cond.methodLink RX7 259 yX5_lookFromFirst ∈ lw_good := gm 440 (by decide +kernel) rfl
theorem ml_X5_116 : Cond.methodLink RX5 116 yX5_lookAt ∈ lw_good := gm 444 (by decide +kernel) rfl
theorem ml_X7_180 : Cond.methodLink RX7 180 yX7_lookOn ∈ lw_good := gm 448 (by decide +kernel) rfl
theorem ml_X7_265 : Cond.methodLink RX7 265 yX1_firstAbove ∈ lw_good := gm 452 (by decide +kernel) rfl
theorem ml_X1_21 : Cond.methodLink RX1 21 yX1_at ∈ lw_good := gm 456 (by decide +kernel) rfl
theorem ml_X7_268 : Cond.methodLink RX7 268 yX5_lookAtNext ∈ lw_good := gm 460 (by decide +kernel) rfl
theorem ml_X7_183 : Cond.methodLink RX7 183 yX5_endLooking ∈ lw_good := gm 464 (by decide +kernel) rfl
theorem ml_X5_122 : Cond.methodLink RX5 122 yX6_isSettled ∈ lw_good := gm 468 (by decide +kernel) rfl
theorem ml_X5_126 : Cond.methodLink RX5 126 yX5_beginWithdraw ∈ lw_good := gm 472 (by decide +kernel) rfl
theorem ml_X5_129 : Cond.methodLink RX5 129 yX5_lookFromFirst ∈ lw_good := gm 473 (by decide +kernel) rfl
theorem ml_X7_186 : Cond.methodLink RX7 186 yX5_wakeIfSettled ∈ lw_good := gm 474 (by decide +kernel) rfl
theorem ml_X7_189 : Cond.methodLink RX7 189 yX7_withdrawEntry ∈ lw_good := gm 478 (by decide +kernel) rfl
theorem ml_X7_298 : Cond.methodLink RX7 298 yX5_firstEntry ∈ lw_good := gm 482 (by decide +kernel) rfl
theorem ml_X7_303 : Cond.methodLink RX7 303 yX1_drop ∈ lw_good := gm 483 (by decide +kernel) rfl
theorem ml_X7_192 : Cond.methodLink RX7 192 yX7_accessToMeet ∈ lw_good := gm 487 (by decide +kernel) rfl
theorem ml_X7_206 : Cond.methodLink RX7 206 yX7_claimLower ∈ lw_good := gm 491 (by decide +kernel) rfl
theorem ml_X7_274 : Cond.methodLink RX7 274 yX7_tryWord ∈ lw_good := gm 495 (by decide +kernel) rfl
theorem ml_X7_309 : Cond.methodLink RX7 309 yX7_versionSought ∈ lw_good := gm 499 (by decide +kernel) rfl
theorem ml_X7_313 : Cond.methodLink RX7 313 yX6_isAt ∈ lw_good := gm 502 (by decide +kernel) rfl
theorem ml_X7_317 : Cond.methodLink RX7 317 yX6_claimFor ∈ lw_good := gm 506 (by decide +kernel) rfl
theorem ml_X7_278 : Cond.methodLink RX7 278 yX6_isSettled ∈ lw_good := gm 510 (by decide +kernel) rfl
theorem ml_X7_281 : Cond.methodLink RX7 281 yX7_noteBusy ∈ lw_good := gm 511 (by decide +kernel) rfl
theorem ml_X7_210 : Cond.methodLink RX7 210 yX7_claimHigher ∈ lw_good := gm 514 (by decide +kernel) rfl
theorem ml_X7_284 : Cond.methodLink RX7 284 yX7_recordPair ∈ lw_good := gm 518 (by decide +kernel) rfl
theorem ml_X7_324 : Cond.methodLink RX7 324 yX4_add ∈ lw_good := gm 522 (by decide +kernel) rfl
theorem ml_X7_214 : Cond.methodLink RX7 214 yX7_giveBack ∈ lw_good := gm 526 (by decide +kernel) rfl
theorem ml_X7_218 : Cond.methodLink RX7 218 yX7_tellOther ∈ lw_good := gm 530 (by decide +kernel) rfl
theorem ml_X7_293 : Cond.methodLink RX7 293 yX3_set ∈ lw_good := gm 534 (by decide +kernel) rfl
theorem ml_X7_222 : Cond.methodLink RX7 222 yX7_takeOwn ∈ lw_good := gm 538 (by decide +kernel) rfl
theorem ml_X7_90 : Cond.methodLink RX7 90 yX5_standing ∈ lw_good := gm 542 (by decide +kernel) rfl
theorem ml_L_49 : Cond.methodLink RL 49 yX7_cancel ∈ lw_good := gm 546 (by decide +kernel) rfl
theorem ml_X7_101 : Cond.methodLink RX7 101 yX5_isClaiming ∈ lw_good := gm 550 (by decide +kernel) rfl
theorem ml_L_53 : Cond.methodLink RL 53 yX7_finish ∈ lw_good := gm 554 (by decide +kernel) rfl
theorem ml_L_57 : Cond.methodLink RL 57 yX7_tick ∈ lw_good := gm 558 (by decide +kernel) rfl
theorem ml_L_62 : Cond.methodLink RL 62 yX7_run ∈ lw_good := gm 562 (by decide +kernel) rfl
theorem ct_X7_113 : Cond.constant RX7 113 (1103515245) ∈ lw_good := gm 566 (by decide +kernel) rfl
theorem ml_L_67 : Cond.methodLink RL 67 yX7_phase ∈ lw_good := gm 567 (by decide +kernel) rfl
theorem ml_L_71 : Cond.methodLink RL 71 yX7_word ∈ lw_good := gm 571 (by decide +kernel) rfl
theorem ml_X7_114 : Cond.methodLink RX7 114 yX6_part ∈ lw_good := gm 575 (by decide +kernel) rfl
theorem ml_L_75 : Cond.methodLink RL 75 yX7_outcome ∈ lw_good := gm 579 (by decide +kernel) rfl
theorem ml_X7_122 : Cond.methodLink RX7 122 yX3_part ∈ lw_good := gm 583 (by decide +kernel) rfl
theorem ml_L_79 : Cond.methodLink RL 79 yX7_entry ∈ lw_good := gm 587 (by decide +kernel) rfl
theorem ml_X7_125 : Cond.methodLink RX7 125 yX1_at ∈ lw_good := gm 591 (by decide +kernel) rfl
theorem ml_X7_129 : Cond.methodLink RX7 129 yX0_part ∈ lw_good := gm 592 (by decide +kernel) rfl
theorem ml_L_84 : Cond.methodLink RL 84 yX7_pair ∈ lw_good := gm 596 (by decide +kernel) rfl
theorem ml_X7_132 : Cond.methodLink RX7 132 yX4_part ∈ lw_good := gm 600 (by decide +kernel) rfl
theorem ml_L_88 : Cond.methodLink RL 88 yX7_doubles ∈ lw_good := gm 604 (by decide +kernel) rfl
theorem ml_L_92 : Cond.methodLink RL 92 yX7_unmet ∈ lw_good := gm 608 (by decide +kernel) rfl
theorem ml_X7_137 : Cond.methodLink RX7 137 yX7_sleepUnmet ∈ lw_good := gm 612 (by decide +kernel) rfl
theorem ml_X7_163 : Cond.methodLink RX7 163 yX5_matches ∈ lw_good := gm 615 (by decide +kernel) rfl
theorem ml_X5_136 : Cond.methodLink RX5 136 yX2_matches ∈ lw_good := gm 619 (by decide +kernel) rfl
theorem ml_L_96 : Cond.methodLink RL 96 yX7_held ∈ lw_good := gm 623 (by decide +kernel) rfl
theorem ml_L_100 : Cond.methodLink RL 100 yX7_count ∈ lw_good := gm 627 (by decide +kernel) rfl
theorem ml_X7_144 : Cond.methodLink RX7 144 yX7_present ∈ lw_good := gm 631 (by decide +kernel) rfl
theorem ml_X7_150 : Cond.methodLink RX7 150 yX7_listed ∈ lw_good := gm 635 (by decide +kernel) rfl
theorem ml_L_9 : Cond.methodLink RL 9 yL_cell ∈ lw_good := gm 639 (by decide +kernel) rfl
theorem cl_L_18 : Cond.classLink RL 18 RX8 ∈ lw_good := gm 642 (by decide +kernel) rfl
theorem ml_L_20 : Cond.methodLink RL 20 yX8_init ∈ lw_good := gm 644 (by decide +kernel) rfl
theorem ml_X8_1 : Cond.methodLink RX8 1 objectInit ∈ lw_good := gm 647 (by decide +kernel) rfl
theorem fl_X8_110 : FL RX8 110 8 0 := ⟨by decide, by decide, gm 648 (by decide +kernel) rfl⟩
theorem fl_X8_130 : FL RX8 130 8 1 := ⟨by decide, by decide, gm 649 (by decide +kernel) rfl⟩
theorem fl_X8_176 : FL RX8 176 8 2 := ⟨by decide, by decide, gm 650 (by decide +kernel) rfl⟩
theorem fl_X8_173 : FL RX8 173 8 3 := ⟨by decide, by decide, gm 651 (by decide +kernel) rfl⟩
theorem fl_X8_133 : FL RX8 133 8 4 := ⟨by decide, by decide, gm 652 (by decide +kernel) rfl⟩
theorem fl_X8_143 : FL RX8 143 8 5 := ⟨by decide, by decide, gm 653 (by decide +kernel) rfl⟩
theorem fl_X8_146 : FL RX8 146 8 6 := ⟨by decide, by decide, gm 654 (by decide +kernel) rfl⟩
theorem fl_X8_9 : FL RX8 9 8 7 := ⟨by decide, by decide, gm 655 (by decide +kernel) rfl⟩
theorem fl_X8_13 : FL RX8 13 8 8 := ⟨by decide, by decide, gm 656 (by decide +kernel) rfl⟩
theorem fl_X8_16 : FL RX8 16 8 9 := ⟨by decide, by decide, gm 657 (by decide +kernel) rfl⟩
theorem fl_X8_19 : FL RX8 19 8 10 := ⟨by decide, by decide, gm 658 (by decide +kernel) rfl⟩
theorem fl_X8_22 : FL RX8 22 8 11 := ⟨by decide, by decide, gm 659 (by decide +kernel) rfl⟩
theorem fl_X8_25 : FL RX8 25 8 12 := ⟨by decide, by decide, gm 660 (by decide +kernel) rfl⟩
theorem fl_X8_29 : FL RX8 29 8 13 := ⟨by decide, by decide, gm 661 (by decide +kernel) rfl⟩
theorem fl_X8_32 : FL RX8 32 8 14 := ⟨by decide, by decide, gm 662 (by decide +kernel) rfl⟩
theorem fl_X8_35 : FL RX8 35 8 15 := ⟨by decide, by decide, gm 663 (by decide +kernel) rfl⟩
theorem fl_X8_38 : FL RX8 38 8 16 := ⟨by decide, by decide, gm 664 (by decide +kernel) rfl⟩
theorem fl_X8_41 : FL RX8 41 8 17 := ⟨by decide, by decide, gm 665 (by decide +kernel) rfl⟩
theorem fl_X8_44 : FL RX8 44 8 18 := ⟨by decide, by decide, gm 666 (by decide +kernel) rfl⟩
theorem fl_X8_47 : FL RX8 47 8 19 := ⟨by decide, by decide, gm 667 (by decide +kernel) rfl⟩
theorem fl_X8_50 : FL RX8 50 8 20 := ⟨by decide, by decide, gm 668 (by decide +kernel) rfl⟩
theorem fl_X8_53 : FL RX8 53 8 21 := ⟨by decide, by decide, gm 669 (by decide +kernel) rfl⟩
theorem fl_X8_56 : FL RX8 56 8 22 := ⟨by decide, by decide, gm 670 (by decide +kernel) rfl⟩
theorem fl_X8_59 : FL RX8 59 8 23 := ⟨by decide, by decide, gm 671 (by decide +kernel) rfl⟩
theorem fl_X8_62 : FL RX8 62 8 24 := ⟨by decide, by decide, gm 672 (by decide +kernel) rfl⟩
theorem fl_X8_65 : FL RX8 65 8 25 := ⟨by decide, by decide, gm 673 (by decide +kernel) rfl⟩
theorem fl_X8_68 : FL RX8 68 8 26 := ⟨by decide, by decide, gm 674 (by decide +kernel) rfl⟩
theorem fl_X8_71 : FL RX8 71 8 27 := ⟨by decide, by decide, gm 675 (by decide +kernel) rfl⟩
theorem fl_X8_74 : FL RX8 74 8 28 := ⟨by decide, by decide, gm 676 (by decide +kernel) rfl⟩
theorem fl_X8_77 : FL RX8 77 8 29 := ⟨by decide, by decide, gm 677 (by decide +kernel) rfl⟩
theorem fl_X8_80 : FL RX8 80 8 30 := ⟨by decide, by decide, gm 678 (by decide +kernel) rfl⟩
theorem fl_X8_136 : FL RX8 136 8 31 := ⟨by decide, by decide, gm 679 (by decide +kernel) rfl⟩
theorem fl_X8_83 : FL RX8 83 8 32 := ⟨by decide, by decide, gm 680 (by decide +kernel) rfl⟩
theorem fl_X8_86 : FL RX8 86 8 33 := ⟨by decide, by decide, gm 681 (by decide +kernel) rfl⟩
theorem fl_X8_89 : FL RX8 89 8 34 := ⟨by decide, by decide, gm 682 (by decide +kernel) rfl⟩
theorem fl_X8_92 : FL RX8 92 8 35 := ⟨by decide, by decide, gm 683 (by decide +kernel) rfl⟩
theorem fl_X8_95 : FL RX8 95 8 36 := ⟨by decide, by decide, gm 684 (by decide +kernel) rfl⟩
theorem fl_X8_98 : FL RX8 98 8 37 := ⟨by decide, by decide, gm 685 (by decide +kernel) rfl⟩
theorem fl_X8_101 : FL RX8 101 8 38 := ⟨by decide, by decide, gm 686 (by decide +kernel) rfl⟩
theorem fl_X8_104 : FL RX8 104 8 39 := ⟨by decide, by decide, gm 687 (by decide +kernel) rfl⟩
theorem fl_X8_107 : FL RX8 107 8 40 := ⟨by decide, by decide, gm 688 (by decide +kernel) rfl⟩
theorem ml_L_25 : Cond.methodLink RL 25 yX8_spawn ∈ lw_good := gm 773 (by decide +kernel) rfl
theorem ml_X8_118 : Cond.methodLink RX8 118 yX8_isIn ∈ lw_good := gm 777 (by decide +kernel) rfl
theorem ml_X8_114 : Cond.methodLink RX8 114 yX8_isOne ∈ lw_good := gm 781 (by decide +kernel) rfl
theorem ml_X8_122 : Cond.methodLink RX8 122 yX8_empties ∈ lw_good := gm 785 (by decide +kernel) rfl
theorem ml_L_29 : Cond.methodLink RL 29 yX8_quit ∈ lw_good := gm 789 (by decide +kernel) rfl
theorem ml_L_34 : Cond.methodLink RL 34 yX8_guard ∈ lw_good := gm 793 (by decide +kernel) rfl
theorem ml_L_39 : Cond.methodLink RL 39 yX8_timeout ∈ lw_good := gm 797 (by decide +kernel) rfl
theorem ml_L_43 : Cond.methodLink RL 43 yX8_offer ∈ lw_good := gm 801 (by decide +kernel) rfl
theorem ml_X8_126 : Cond.methodLink RX8 126 yX8_onBehind ∈ lw_good := gm 805 (by decide +kernel) rfl
theorem ml_L_48 : Cond.methodLink RL 48 yX8_step ∈ lw_good := gm 809 (by decide +kernel) rfl
theorem ml_X8_209 : Cond.methodLink RX8 209 yX8_turns ∈ lw_good := gm 813 (by decide +kernel) rfl
theorem ml_X8_182 : Cond.methodLink RX8 182 yX8_isDue ∈ lw_good := gm 817 (by decide +kernel) rfl
theorem ml_X8_185 : Cond.methodLink RX8 185 yX8_ends ∈ lw_good := gm 821 (by decide +kernel) rfl
theorem ml_X8_179 : Cond.methodLink RX8 179 yX8_goesOut ∈ lw_good := gm 825 (by decide +kernel) rfl
theorem ml_X8_163 : Cond.methodLink RX8 163 yX8_withdraws ∈ lw_good := gm 829 (by decide +kernel) rfl
theorem ml_X8_139 : Cond.methodLink RX8 139 yX8_ownEntry ∈ lw_good := gm 833 (by decide +kernel) rfl
theorem ml_X8_188 : Cond.methodLink RX8 188 yX8_publishes ∈ lw_good := gm 837 (by decide +kernel) rfl
theorem ml_X8_149 : Cond.methodLink RX8 149 yX8_looksOn ∈ lw_good := gm 841 (by decide +kernel) rfl
theorem ml_X8_191 : Cond.methodLink RX8 191 yX8_looks ∈ lw_good := gm 845 (by decide +kernel) rfl
theorem ml_X8_194 : Cond.methodLink RX8 194 yX8_claims ∈ lw_good := gm 849 (by decide +kernel) rfl
theorem ml_X8_153 : Cond.methodLink RX8 153 yX8_versionOf ∈ lw_good := gm 853 (by decide +kernel) rfl
theorem ml_X8_156 : Cond.methodLink RX8 156 yX8_tries ∈ lw_good := gm 857 (by decide +kernel) rfl
theorem ml_X8_160 : Cond.methodLink RX8 160 yX8_isEnded ∈ lw_good := gm 861 (by decide +kernel) rfl
theorem ml_X8_166 : Cond.methodLink RX8 166 yX8_isBusy ∈ lw_good := gm 865 (by decide +kernel) rfl
theorem ml_X8_197 : Cond.methodLink RX8 197 yX8_seconds ∈ lw_good := gm 869 (by decide +kernel) rfl
theorem ml_X8_170 : Cond.methodLink RX8 170 yX8_meets ∈ lw_good := gm 873 (by decide +kernel) rfl
theorem ml_X8_200 : Cond.methodLink RX8 200 yX8_tells ∈ lw_good := gm 877 (by decide +kernel) rfl
theorem ml_X8_203 : Cond.methodLink RX8 203 yX8_rests ∈ lw_good := gm 881 (by decide +kernel) rfl
theorem ml_X8_206 : Cond.methodLink RX8 206 yX8_removes ∈ lw_good := gm 885 (by decide +kernel) rfl
theorem ml_X8_212 : Cond.methodLink RX8 212 yX8_how ∈ lw_good := gm 889 (by decide +kernel) rfl
theorem ml_L_52 : Cond.methodLink RL 52 yX8_cancel ∈ lw_good := gm 893 (by decide +kernel) rfl
theorem ml_X8_215 : Cond.methodLink RX8 215 yX8_isOffering ∈ lw_good := gm 897 (by decide +kernel) rfl
theorem ml_L_56 : Cond.methodLink RL 56 yX8_finish ∈ lw_good := gm 901 (by decide +kernel) rfl
theorem ml_L_61 : Cond.methodLink RL 61 yX8_tick ∈ lw_good := gm 905 (by decide +kernel) rfl
theorem ml_L_66 : Cond.methodLink RL 66 yX8_run ∈ lw_good := gm 909 (by decide +kernel) rfl
theorem ct_X8_218 : Cond.constant RX8 218 (1103515245) ∈ lw_good := gm 913 (by decide +kernel) rfl
theorem ml_L_70 : Cond.methodLink RL 70 yX8_phase ∈ lw_good := gm 914 (by decide +kernel) rfl
theorem ml_L_74 : Cond.methodLink RL 74 yX8_word ∈ lw_good := gm 918 (by decide +kernel) rfl
theorem ml_L_78 : Cond.methodLink RL 78 yX8_outcome ∈ lw_good := gm 922 (by decide +kernel) rfl
theorem ml_L_83 : Cond.methodLink RL 83 yX8_entry ∈ lw_good := gm 926 (by decide +kernel) rfl
theorem ml_L_87 : Cond.methodLink RL 87 yX8_pair ∈ lw_good := gm 930 (by decide +kernel) rfl
theorem ml_L_91 : Cond.methodLink RL 91 yX8_doubles ∈ lw_good := gm 934 (by decide +kernel) rfl
theorem ml_L_95 : Cond.methodLink RL 95 yX8_unmet ∈ lw_good := gm 938 (by decide +kernel) rfl
theorem ml_X8_219 : Cond.methodLink RX8 219 yX8_isUnmet ∈ lw_good := gm 942 (by decide +kernel) rfl
theorem ml_X8_222 : Cond.methodLink RX8 222 yX8_match ∈ lw_good := gm 946 (by decide +kernel) rfl
theorem ml_L_99 : Cond.methodLink RL 99 yX8_held ∈ lw_good := gm 950 (by decide +kernel) rfl
theorem ml_L_103 : Cond.methodLink RL 103 yX8_count ∈ lw_good := gm 954 (by decide +kernel) rfl
theorem ok_J9_max_7cf53 : OkM mJ9_max_7cf53 2 := ⟨rfl, by decide +kernel, by decide +kernel, gm 71 (by decide +kernel) rfl, gm 49 (by decide +kernel) rfl⟩
theorem os_J9_max_7cf53 : Cond.static yJ9_max_7cf53 ∈ lw_good := gm 70 (by decide +kernel) rfl
theorem ok_J9_min_7cf53 : OkM mJ9_min_7cf53 2 := ⟨rfl, by decide +kernel, by decide +kernel, gm 68 (by decide +kernel) rfl, gm 49 (by decide +kernel) rfl⟩
theorem os_J9_min_7cf53 : Cond.static yJ9_min_7cf53 ∈ lw_good := gm 67 (by decide +kernel) rfl
theorem ok_L_cell : OkM mL_cell 2 := ⟨rfl, by decide +kernel, by decide +kernel, gm 641 (by decide +kernel) rfl, gm 47 (by decide +kernel) rfl⟩
theorem os_L_cell : Cond.static yL_cell ∈ lw_good := gm 640 (by decide +kernel) rfl
theorem ok_X0_init : OkM mX0_init 4 := ⟨rfl, by decide +kernel, by decide +kernel, gm 400 (by decide +kernel) rfl, gm 57 (by decide +kernel) rfl⟩
theorem oi_X0_init : Cond.instanceMethod yX0_init ∈ lw_good := gm 399 (by decide +kernel) rfl
theorem ok_X0_part : OkM mX0_part 1 := ⟨rfl, by decide +kernel, by decide +kernel, gm 595 (by decide +kernel) rfl, gm 57 (by decide +kernel) rfl⟩
theorem ov_X0_part : OkV mX0_part := ⟨gm 593 (by decide +kernel) rfl, gm 594 (by decide +kernel) rfl⟩
theorem ok_X1_append : OkM mX1_append 1 := ⟨rfl, by decide +kernel, by decide +kernel, gm 434 (by decide +kernel) rfl, gm 54 (by decide +kernel) rfl⟩
theorem ov_X1_append : OkV mX1_append := ⟨gm 432 (by decide +kernel) rfl, gm 433 (by decide +kernel) rfl⟩
theorem ok_X1_at : OkM mX1_at 1 := ⟨rfl, by decide +kernel, by decide +kernel, gm 459 (by decide +kernel) rfl, gm 54 (by decide +kernel) rfl⟩
theorem ov_X1_at : OkV mX1_at := ⟨gm 457 (by decide +kernel) rfl, gm 458 (by decide +kernel) rfl⟩
theorem ok_X1_drop : OkM mX1_drop 1 := ⟨rfl, by decide +kernel, by decide +kernel, gm 486 (by decide +kernel) rfl, gm 54 (by decide +kernel) rfl⟩
theorem ov_X1_drop : OkV mX1_drop := ⟨gm 484 (by decide +kernel) rfl, gm 485 (by decide +kernel) rfl⟩
theorem ok_X1_firstAbove : OkM mX1_firstAbove 1 := ⟨rfl, by decide +kernel, by decide +kernel, gm 455 (by decide +kernel) rfl, gm 54 (by decide +kernel) rfl⟩
theorem ov_X1_firstAbove : OkV mX1_firstAbove := ⟨gm 453 (by decide +kernel) rfl, gm 454 (by decide +kernel) rfl⟩
theorem ok_X1_init : OkM mX1_init 0 := ⟨rfl, by decide +kernel, by decide +kernel, gm 240 (by decide +kernel) rfl, gm 54 (by decide +kernel) rfl⟩
theorem oi_X1_init : Cond.instanceMethod yX1_init ∈ lw_good := gm 239 (by decide +kernel) rfl
theorem ok_X2_init : OkM mX2_init 0 := ⟨rfl, by decide +kernel, by decide +kernel, gm 130 (by decide +kernel) rfl, gm 53 (by decide +kernel) rfl⟩
theorem oi_X2_init : Cond.instanceMethod yX2_init ∈ lw_good := gm 129 (by decide +kernel) rfl
theorem ok_X2_matches : OkM mX2_matches 1 := ⟨rfl, by decide +kernel, by decide +kernel, gm 622 (by decide +kernel) rfl, gm 53 (by decide +kernel) rfl⟩
theorem ov_X2_matches : OkV mX2_matches := ⟨gm 620 (by decide +kernel) rfl, gm 621 (by decide +kernel) rfl⟩
theorem ok_X3_init : OkM mX3_init 0 := ⟨rfl, by decide +kernel, by decide +kernel, gm 105 (by decide +kernel) rfl, gm 52 (by decide +kernel) rfl⟩
theorem oi_X3_init : Cond.instanceMethod yX3_init ∈ lw_good := gm 104 (by decide +kernel) rfl
theorem ok_X3_part : OkM mX3_part 1 := ⟨rfl, by decide +kernel, by decide +kernel, gm 586 (by decide +kernel) rfl, gm 52 (by decide +kernel) rfl⟩
theorem ov_X3_part : OkV mX3_part := ⟨gm 584 (by decide +kernel) rfl, gm 585 (by decide +kernel) rfl⟩
theorem ok_X3_set : OkM mX3_set 4 := ⟨rfl, by decide +kernel, by decide +kernel, gm 537 (by decide +kernel) rfl, gm 52 (by decide +kernel) rfl⟩
theorem ov_X3_set : OkV mX3_set := ⟨gm 535 (by decide +kernel) rfl, gm 536 (by decide +kernel) rfl⟩
theorem ok_X4_add : OkM mX4_add 4 := ⟨rfl, by decide +kernel, by decide +kernel, gm 525 (by decide +kernel) rfl, gm 55 (by decide +kernel) rfl⟩
theorem ov_X4_add : OkV mX4_add := ⟨gm 523 (by decide +kernel) rfl, gm 524 (by decide +kernel) rfl⟩
theorem ok_X4_init : OkM mX4_init 0 := ⟨rfl, by decide +kernel, by decide +kernel, gm 255 (by decide +kernel) rfl, gm 55 (by decide +kernel) rfl⟩
theorem oi_X4_init : Cond.instanceMethod yX4_init ∈ lw_good := gm 254 (by decide +kernel) rfl
theorem ok_X4_part : OkM mX4_part 2 := ⟨rfl, by decide +kernel, by decide +kernel, gm 603 (by decide +kernel) rfl, gm 55 (by decide +kernel) rfl⟩
theorem ov_X4_part : OkV mX4_part := ⟨gm 601 (by decide +kernel) rfl, gm 602 (by decide +kernel) rfl⟩
theorem ok_X5_addGuard : OkM mX5_addGuard 4 := ⟨rfl, by decide +kernel, by decide +kernel, gm 325 (by decide +kernel) rfl, gm 50 (by decide +kernel) rfl⟩
theorem ov_X5_addGuard : OkV mX5_addGuard := ⟨gm 323 (by decide +kernel) rfl, gm 324 (by decide +kernel) rfl⟩
theorem ok_X5_becomeIdle : OkM mX5_becomeIdle 0 := ⟨rfl, by decide +kernel, by decide +kernel, gm 309 (by decide +kernel) rfl, gm 50 (by decide +kernel) rfl⟩
theorem ov_X5_becomeIdle : OkV mX5_becomeIdle := ⟨gm 307 (by decide +kernel) rfl, gm 308 (by decide +kernel) rfl⟩
theorem ok_X5_beginOffer : OkM mX5_beginOffer 1 := ⟨rfl, by decide +kernel, by decide +kernel, gm 337 (by decide +kernel) rfl, gm 50 (by decide +kernel) rfl⟩
theorem ov_X5_beginOffer : OkV mX5_beginOffer := ⟨gm 335 (by decide +kernel) rfl, gm 336 (by decide +kernel) rfl⟩
theorem ok_X5_beginWithdraw : OkM mX5_beginWithdraw 0 := ⟨rfl, by decide +kernel, by decide +kernel, gm 383 (by decide +kernel) rfl, gm 50 (by decide +kernel) rfl⟩
theorem ov_X5_beginWithdraw : OkV mX5_beginWithdraw := ⟨gm 381 (by decide +kernel) rfl, gm 382 (by decide +kernel) rfl⟩
theorem ok_X5_currentGuard : OkM mX5_currentGuard 0 := ⟨rfl, by decide +kernel, by decide +kernel, gm 395 (by decide +kernel) rfl, gm 50 (by decide +kernel) rfl⟩
theorem ov_X5_currentGuard : OkV mX5_currentGuard := ⟨gm 393 (by decide +kernel) rfl, gm 394 (by decide +kernel) rfl⟩
theorem ok_X5_endLooking : OkM mX5_endLooking 0 := ⟨rfl, by decide +kernel, by decide +kernel, gm 467 (by decide +kernel) rfl, gm 50 (by decide +kernel) rfl⟩
theorem ov_X5_endLooking : OkV mX5_endLooking := ⟨gm 465 (by decide +kernel) rfl, gm 466 (by decide +kernel) rfl⟩
theorem ok_X5_firstEntry : OkM mX5_firstEntry 0 := ⟨rfl, by decide +kernel, by decide +kernel, gm 387 (by decide +kernel) rfl, gm 50 (by decide +kernel) rfl⟩
theorem ov_X5_firstEntry : OkV mX5_firstEntry := ⟨gm 385 (by decide +kernel) rfl, gm 386 (by decide +kernel) rfl⟩
theorem ok_X5_heedsTime : OkM mX5_heedsTime 0 := ⟨rfl, by decide +kernel, by decide +kernel, gm 366 (by decide +kernel) rfl, gm 50 (by decide +kernel) rfl⟩
theorem ov_X5_heedsTime : OkV mX5_heedsTime := ⟨gm 364 (by decide +kernel) rfl, gm 365 (by decide +kernel) rfl⟩
theorem ok_X5_init : OkM mX5_init 1 := ⟨rfl, by decide +kernel, by decide +kernel, gm 77 (by decide +kernel) rfl, gm 50 (by decide +kernel) rfl⟩
theorem oi_X5_init : Cond.instanceMethod yX5_init ∈ lw_good := gm 76 (by decide +kernel) rfl
theorem ok_X5_isClaiming : OkM mX5_isClaiming 0 := ⟨rfl, by decide +kernel, by decide +kernel, gm 553 (by decide +kernel) rfl, gm 50 (by decide +kernel) rfl⟩
theorem ov_X5_isClaiming : OkV mX5_isClaiming := ⟨gm 551 (by decide +kernel) rfl, gm 552 (by decide +kernel) rfl⟩
theorem ok_X5_isDue : OkM mX5_isDue 1 := ⟨rfl, by decide +kernel, by decide +kernel, gm 362 (by decide +kernel) rfl, gm 50 (by decide +kernel) rfl⟩
theorem ov_X5_isDue : OkV mX5_isDue := ⟨gm 360 (by decide +kernel) rfl, gm 361 (by decide +kernel) rfl⟩
theorem ok_X5_isOffering : OkM mX5_isOffering 0 := ⟨rfl, by decide +kernel, by decide +kernel, gm 354 (by decide +kernel) rfl, gm 50 (by decide +kernel) rfl⟩
theorem ov_X5_isOffering : OkV mX5_isOffering := ⟨gm 352 (by decide +kernel) rfl, gm 353 (by decide +kernel) rfl⟩
theorem ok_X5_keepEntry : OkM mX5_keepEntry 1 := ⟨rfl, by decide +kernel, by decide +kernel, gm 438 (by decide +kernel) rfl, gm 50 (by decide +kernel) rfl⟩
theorem ov_X5_keepEntry : OkV mX5_keepEntry := ⟨gm 436 (by decide +kernel) rfl, gm 437 (by decide +kernel) rfl⟩
theorem ok_X5_lookAt : OkM mX5_lookAt 1 := ⟨rfl, by decide +kernel, by decide +kernel, gm 447 (by decide +kernel) rfl, gm 50 (by decide +kernel) rfl⟩
theorem ov_X5_lookAt : OkV mX5_lookAt := ⟨gm 445 (by decide +kernel) rfl, gm 446 (by decide +kernel) rfl⟩
theorem ok_X5_lookAtNext : OkM mX5_lookAtNext 0 := ⟨rfl, by decide +kernel, by decide +kernel, gm 463 (by decide +kernel) rfl, gm 50 (by decide +kernel) rfl⟩
theorem ov_X5_lookAtNext : OkV mX5_lookAtNext := ⟨gm 461 (by decide +kernel) rfl, gm 462 (by decide +kernel) rfl⟩
theorem ok_X5_lookFromFirst : OkM mX5_lookFromFirst 0 := ⟨rfl, by decide +kernel, by decide +kernel, gm 443 (by decide +kernel) rfl, gm 50 (by decide +kernel) rfl⟩
theorem ov_X5_lookFromFirst : OkV mX5_lookFromFirst := ⟨gm 441 (by decide +kernel) rfl, gm 442 (by decide +kernel) rfl⟩
theorem ok_X5_matches : OkM mX5_matches 1 := ⟨rfl, by decide +kernel, by decide +kernel, gm 618 (by decide +kernel) rfl, gm 50 (by decide +kernel) rfl⟩
theorem ov_X5_matches : OkV mX5_matches := ⟨gm 616 (by decide +kernel) rfl, gm 617 (by decide +kernel) rfl⟩
theorem ok_X5_nextOn : OkM mX5_nextOn 1 := ⟨rfl, by decide +kernel, by decide +kernel, gm 345 (by decide +kernel) rfl, gm 50 (by decide +kernel) rfl⟩
theorem ov_X5_nextOn : OkV mX5_nextOn := ⟨gm 343 (by decide +kernel) rfl, gm 344 (by decide +kernel) rfl⟩
theorem ok_X5_standing : OkM mX5_standing 0 := ⟨rfl, by decide +kernel, by decide +kernel, gm 545 (by decide +kernel) rfl, gm 50 (by decide +kernel) rfl⟩
theorem ov_X5_standing : OkV mX5_standing := ⟨gm 543 (by decide +kernel) rfl, gm 544 (by decide +kernel) rfl⟩
theorem ok_X5_wakeIfSettled : OkM mX5_wakeIfSettled 0 := ⟨rfl, by decide +kernel, by decide +kernel, gm 477 (by decide +kernel) rfl, gm 50 (by decide +kernel) rfl⟩
theorem ov_X5_wakeIfSettled : OkV mX5_wakeIfSettled := ⟨gm 475 (by decide +kernel) rfl, gm 476 (by decide +kernel) rfl⟩
theorem ok_X6_become : OkM mX6_become 1 := ⟨rfl, by decide +kernel, by decide +kernel, gm 341 (by decide +kernel) rfl, gm 51 (by decide +kernel) rfl⟩
theorem ov_X6_become : OkV mX6_become := ⟨gm 339 (by decide +kernel) rfl, gm 340 (by decide +kernel) rfl⟩
theorem ok_X6_claimFor : OkM mX6_claimFor 1 := ⟨rfl, by decide +kernel, by decide +kernel, gm 509 (by decide +kernel) rfl, gm 51 (by decide +kernel) rfl⟩
theorem ov_X6_claimFor : OkV mX6_claimFor := ⟨gm 507 (by decide +kernel) rfl, gm 508 (by decide +kernel) rfl⟩
theorem ok_X6_init : OkM mX6_init 0 := ⟨rfl, by decide +kernel, by decide +kernel, gm 83 (by decide +kernel) rfl, gm 51 (by decide +kernel) rfl⟩
theorem oi_X6_init : Cond.instanceMethod yX6_init ∈ lw_good := gm 82 (by decide +kernel) rfl
theorem ok_X6_isAt : OkM mX6_isAt 2 := ⟨rfl, by decide +kernel, by decide +kernel, gm 505 (by decide +kernel) rfl, gm 51 (by decide +kernel) rfl⟩
theorem ov_X6_isAt : OkV mX6_isAt := ⟨gm 503 (by decide +kernel) rfl, gm 504 (by decide +kernel) rfl⟩
theorem ok_X6_isSettled : OkM mX6_isSettled 0 := ⟨rfl, by decide +kernel, by decide +kernel, gm 471 (by decide +kernel) rfl, gm 51 (by decide +kernel) rfl⟩
theorem ov_X6_isSettled : OkV mX6_isSettled := ⟨gm 469 (by decide +kernel) rfl, gm 470 (by decide +kernel) rfl⟩
theorem ok_X6_part : OkM mX6_part 1 := ⟨rfl, by decide +kernel, by decide +kernel, gm 578 (by decide +kernel) rfl, gm 51 (by decide +kernel) rfl⟩
theorem ov_X6_part : OkV mX6_part := ⟨gm 576 (by decide +kernel) rfl, gm 577 (by decide +kernel) rfl⟩
theorem ok_X7_access : OkM mX7_access 1 := ⟨rfl, by decide +kernel, by decide +kernel, gm 358 (by decide +kernel) rfl, gm 48 (by decide +kernel) rfl⟩
theorem ov_X7_access : OkV mX7_access := ⟨gm 357 (by decide +kernel) rfl, gm 3 (by decide +kernel) rfl⟩
theorem ok_X7_accessToMeet : OkM mX7_accessToMeet 1 := ⟨rfl, by decide +kernel, by decide +kernel, gm 490 (by decide +kernel) rfl, gm 48 (by decide +kernel) rfl⟩
theorem ov_X7_accessToMeet : OkV mX7_accessToMeet := ⟨gm 489 (by decide +kernel) rfl, gm 10 (by decide +kernel) rfl⟩
theorem ok_X7_cancel : OkM mX7_cancel 1 := ⟨rfl, by decide +kernel, by decide +kernel, gm 549 (by decide +kernel) rfl, gm 48 (by decide +kernel) rfl⟩
theorem ov_X7_cancel : OkV mX7_cancel := ⟨gm 547 (by decide +kernel) rfl, gm 548 (by decide +kernel) rfl⟩
theorem ok_X7_claimHigher : OkM mX7_claimHigher 4 := ⟨rfl, by decide +kernel, by decide +kernel, gm 517 (by decide +kernel) rfl, gm 48 (by decide +kernel) rfl⟩
theorem ov_X7_claimHigher : OkV mX7_claimHigher := ⟨gm 516 (by decide +kernel) rfl, gm 13 (by decide +kernel) rfl⟩
theorem ok_X7_claimLower : OkM mX7_claimLower 3 := ⟨rfl, by decide +kernel, by decide +kernel, gm 494 (by decide +kernel) rfl, gm 48 (by decide +kernel) rfl⟩
theorem ov_X7_claimLower : OkV mX7_claimLower := ⟨gm 493 (by decide +kernel) rfl, gm 11 (by decide +kernel) rfl⟩
theorem ok_X7_count : OkM mX7_count 1 := ⟨rfl, by decide +kernel, by decide +kernel, gm 630 (by decide +kernel) rfl, gm 48 (by decide +kernel) rfl⟩
theorem ov_X7_count : OkV mX7_count := ⟨gm 628 (by decide +kernel) rfl, gm 629 (by decide +kernel) rfl⟩
theorem ok_X7_doubles : OkM mX7_doubles 0 := ⟨rfl, by decide +kernel, by decide +kernel, gm 607 (by decide +kernel) rfl, gm 48 (by decide +kernel) rfl⟩
theorem ov_X7_doubles : OkV mX7_doubles := ⟨gm 605 (by decide +kernel) rfl, gm 606 (by decide +kernel) rfl⟩
theorem ok_X7_entry : OkM mX7_entry 3 := ⟨rfl, by decide +kernel, by decide +kernel, gm 590 (by decide +kernel) rfl, gm 48 (by decide +kernel) rfl⟩
theorem ov_X7_entry : OkV mX7_entry := ⟨gm 588 (by decide +kernel) rfl, gm 589 (by decide +kernel) rfl⟩
theorem ok_X7_finish : OkM mX7_finish 1 := ⟨rfl, by decide +kernel, by decide +kernel, gm 557 (by decide +kernel) rfl, gm 48 (by decide +kernel) rfl⟩
theorem ov_X7_finish : OkV mX7_finish := ⟨gm 555 (by decide +kernel) rfl, gm 556 (by decide +kernel) rfl⟩
theorem ok_X7_giveBack : OkM mX7_giveBack 2 := ⟨rfl, by decide +kernel, by decide +kernel, gm 529 (by decide +kernel) rfl, gm 48 (by decide +kernel) rfl⟩
theorem ov_X7_giveBack : OkV mX7_giveBack := ⟨gm 528 (by decide +kernel) rfl, gm 15 (by decide +kernel) rfl⟩
theorem ok_X7_guard : OkM mX7_guard 5 := ⟨rfl, by decide +kernel, by decide +kernel, gm 317 (by decide +kernel) rfl, gm 48 (by decide +kernel) rfl⟩
theorem ov_X7_guard : OkV mX7_guard := ⟨gm 315 (by decide +kernel) rfl, gm 316 (by decide +kernel) rfl⟩
theorem ok_X7_held : OkM mX7_held 0 := ⟨rfl, by decide +kernel, by decide +kernel, gm 626 (by decide +kernel) rfl, gm 48 (by decide +kernel) rfl⟩
theorem ov_X7_held : OkV mX7_held := ⟨gm 624 (by decide +kernel) rfl, gm 625 (by decide +kernel) rfl⟩
theorem ok_X7_init : OkM mX7_init 1 := ⟨rfl, by decide +kernel, by decide +kernel, gm 62 (by decide +kernel) rfl, gm 48 (by decide +kernel) rfl⟩
theorem oi_X7_init : Cond.instanceMethod yX7_init ∈ lw_good := gm 61 (by decide +kernel) rfl
theorem ok_X7_listAt : OkM mX7_listAt 1 := ⟨rfl, by decide +kernel, by decide +kernel, gm 321 (by decide +kernel) rfl, gm 48 (by decide +kernel) rfl⟩
theorem ov_X7_listAt : OkV mX7_listAt := ⟨gm 320 (by decide +kernel) rfl, gm 2 (by decide +kernel) rfl⟩
theorem ok_X7_listed : OkM mX7_listed 0 := ⟨rfl, by decide +kernel, by decide +kernel, gm 638 (by decide +kernel) rfl, gm 48 (by decide +kernel) rfl⟩
theorem ov_X7_listed : OkV mX7_listed := ⟨gm 637 (by decide +kernel) rfl, gm 19 (by decide +kernel) rfl⟩
theorem ok_X7_lookOn : OkM mX7_lookOn 1 := ⟨rfl, by decide +kernel, by decide +kernel, gm 451 (by decide +kernel) rfl, gm 48 (by decide +kernel) rfl⟩
theorem ov_X7_lookOn : OkV mX7_lookOn := ⟨gm 450 (by decide +kernel) rfl, gm 8 (by decide +kernel) rfl⟩
theorem ok_X7_noteBusy : OkM mX7_noteBusy 3 := ⟨rfl, by decide +kernel, by decide +kernel, gm 513 (by decide +kernel) rfl, gm 48 (by decide +kernel) rfl⟩
theorem os_X7_noteBusy : Cond.static yX7_noteBusy ∈ lw_good := gm 512 (by decide +kernel) rfl
theorem ok_X7_noteDouble : OkM mX7_noteDouble 1 := ⟨rfl, by decide +kernel, by decide +kernel, gm 379 (by decide +kernel) rfl, gm 48 (by decide +kernel) rfl⟩
theorem ov_X7_noteDouble : OkV mX7_noteDouble := ⟨gm 378 (by decide +kernel) rfl, gm 6 (by decide +kernel) rfl⟩
theorem ok_X7_offer : OkM mX7_offer 1 := ⟨rfl, by decide +kernel, by decide +kernel, gm 333 (by decide +kernel) rfl, gm 48 (by decide +kernel) rfl⟩
theorem ov_X7_offer : OkV mX7_offer := ⟨gm 331 (by decide +kernel) rfl, gm 332 (by decide +kernel) rfl⟩
theorem ok_X7_outcome : OkM mX7_outcome 2 := ⟨rfl, by decide +kernel, by decide +kernel, gm 582 (by decide +kernel) rfl, gm 48 (by decide +kernel) rfl⟩
theorem ov_X7_outcome : OkV mX7_outcome := ⟨gm 580 (by decide +kernel) rfl, gm 581 (by decide +kernel) rfl⟩
theorem ok_X7_pair : OkM mX7_pair 2 := ⟨rfl, by decide +kernel, by decide +kernel, gm 599 (by decide +kernel) rfl, gm 48 (by decide +kernel) rfl⟩
theorem ov_X7_pair : OkV mX7_pair := ⟨gm 597 (by decide +kernel) rfl, gm 598 (by decide +kernel) rfl⟩
theorem ok_X7_phase : OkM mX7_phase 1 := ⟨rfl, by decide +kernel, by decide +kernel, gm 570 (by decide +kernel) rfl, gm 48 (by decide +kernel) rfl⟩
theorem ov_X7_phase : OkV mX7_phase := ⟨gm 568 (by decide +kernel) rfl, gm 569 (by decide +kernel) rfl⟩
theorem ok_X7_present : OkM mX7_present 0 := ⟨rfl, by decide +kernel, by decide +kernel, gm 634 (by decide +kernel) rfl, gm 48 (by decide +kernel) rfl⟩
theorem ov_X7_present : OkV mX7_present := ⟨gm 633 (by decide +kernel) rfl, gm 18 (by decide +kernel) rfl⟩
theorem ok_X7_procAt : OkM mX7_procAt 1 := ⟨rfl, by decide +kernel, by decide +kernel, gm 305 (by decide +kernel) rfl, gm 48 (by decide +kernel) rfl⟩
theorem ov_X7_procAt : OkV mX7_procAt := ⟨gm 304 (by decide +kernel) rfl, gm 1 (by decide +kernel) rfl⟩
theorem ok_X7_procIn : OkM mX7_procIn 2 := ⟨rfl, by decide +kernel, by decide +kernel, gm 301 (by decide +kernel) rfl, gm 48 (by decide +kernel) rfl⟩
theorem ov_X7_procIn : OkV mX7_procIn := ⟨gm 300 (by decide +kernel) rfl, gm 0 (by decide +kernel) rfl⟩
theorem ok_X7_publishEntry : OkM mX7_publishEntry 1 := ⟨rfl, by decide +kernel, by decide +kernel, gm 391 (by decide +kernel) rfl, gm 48 (by decide +kernel) rfl⟩
theorem ov_X7_publishEntry : OkV mX7_publishEntry := ⟨gm 390 (by decide +kernel) rfl, gm 7 (by decide +kernel) rfl⟩
theorem ok_X7_putOut : OkM mX7_putOut 2 := ⟨rfl, by decide +kernel, by decide +kernel, gm 374 (by decide +kernel) rfl, gm 48 (by decide +kernel) rfl⟩
theorem ov_X7_putOut : OkV mX7_putOut := ⟨gm 373 (by decide +kernel) rfl, gm 5 (by decide +kernel) rfl⟩
theorem ok_X7_quit : OkM mX7_quit 1 := ⟨rfl, by decide +kernel, by decide +kernel, gm 313 (by decide +kernel) rfl, gm 48 (by decide +kernel) rfl⟩
theorem ov_X7_quit : OkV mX7_quit := ⟨gm 311 (by decide +kernel) rfl, gm 312 (by decide +kernel) rfl⟩
theorem ok_X7_recordPair : OkM mX7_recordPair 4 := ⟨rfl, by decide +kernel, by decide +kernel, gm 521 (by decide +kernel) rfl, gm 48 (by decide +kernel) rfl⟩
theorem ov_X7_recordPair : OkV mX7_recordPair := ⟨gm 520 (by decide +kernel) rfl, gm 14 (by decide +kernel) rfl⟩
theorem ok_X7_run : OkM mX7_run 2 := ⟨rfl, by decide +kernel, by decide +kernel, gm 565 (by decide +kernel) rfl, gm 48 (by decide +kernel) rfl⟩
theorem ov_X7_run : OkV mX7_run := ⟨gm 563 (by decide +kernel) rfl, gm 564 (by decide +kernel) rfl⟩
theorem ok_X7_runOutOfTime : OkM mX7_runOutOfTime 1 := ⟨rfl, by decide +kernel, by decide +kernel, gm 370 (by decide +kernel) rfl, gm 48 (by decide +kernel) rfl⟩
theorem ov_X7_runOutOfTime : OkV mX7_runOutOfTime := ⟨gm 369 (by decide +kernel) rfl, gm 4 (by decide +kernel) rfl⟩
theorem ok_X7_sleepUnmet : OkM mX7_sleepUnmet 2 := ⟨rfl, by decide +kernel, by decide +kernel, gm 614 (by decide +kernel) rfl, gm 48 (by decide +kernel) rfl⟩
theorem os_X7_sleepUnmet : Cond.static yX7_sleepUnmet ∈ lw_good := gm 613 (by decide +kernel) rfl
theorem ok_X7_spawn : OkM mX7_spawn 1 := ⟨rfl, by decide +kernel, by decide +kernel, gm 297 (by decide +kernel) rfl, gm 48 (by decide +kernel) rfl⟩
theorem ov_X7_spawn : OkV mX7_spawn := ⟨gm 295 (by decide +kernel) rfl, gm 296 (by decide +kernel) rfl⟩
theorem ok_X7_step : OkM mX7_step 1 := ⟨rfl, by decide +kernel, by decide +kernel, gm 350 (by decide +kernel) rfl, gm 48 (by decide +kernel) rfl⟩
theorem ov_X7_step : OkV mX7_step := ⟨gm 348 (by decide +kernel) rfl, gm 349 (by decide +kernel) rfl⟩
theorem ok_X7_takeOwn : OkM mX7_takeOwn 3 := ⟨rfl, by decide +kernel, by decide +kernel, gm 541 (by decide +kernel) rfl, gm 48 (by decide +kernel) rfl⟩
theorem ov_X7_takeOwn : OkV mX7_takeOwn := ⟨gm 540 (by decide +kernel) rfl, gm 17 (by decide +kernel) rfl⟩
theorem ok_X7_tellOther : OkM mX7_tellOther 3 := ⟨rfl, by decide +kernel, by decide +kernel, gm 533 (by decide +kernel) rfl, gm 48 (by decide +kernel) rfl⟩
theorem ov_X7_tellOther : OkV mX7_tellOther := ⟨gm 532 (by decide +kernel) rfl, gm 16 (by decide +kernel) rfl⟩
theorem ok_X7_tick : OkM mX7_tick 0 := ⟨rfl, by decide +kernel, by decide +kernel, gm 561 (by decide +kernel) rfl, gm 48 (by decide +kernel) rfl⟩
theorem ov_X7_tick : OkV mX7_tick := ⟨gm 559 (by decide +kernel) rfl, gm 560 (by decide +kernel) rfl⟩
theorem ok_X7_timeout : OkM mX7_timeout 2 := ⟨rfl, by decide +kernel, by decide +kernel, gm 329 (by decide +kernel) rfl, gm 48 (by decide +kernel) rfl⟩
theorem ov_X7_timeout : OkV mX7_timeout := ⟨gm 327 (by decide +kernel) rfl, gm 328 (by decide +kernel) rfl⟩
theorem ok_X7_tryWord : OkM mX7_tryWord 3 := ⟨rfl, by decide +kernel, by decide +kernel, gm 498 (by decide +kernel) rfl, gm 48 (by decide +kernel) rfl⟩
theorem ov_X7_tryWord : OkV mX7_tryWord := ⟨gm 497 (by decide +kernel) rfl, gm 12 (by decide +kernel) rfl⟩
theorem ok_X7_unmet : OkM mX7_unmet 0 := ⟨rfl, by decide +kernel, by decide +kernel, gm 611 (by decide +kernel) rfl, gm 48 (by decide +kernel) rfl⟩
theorem ov_X7_unmet : OkV mX7_unmet := ⟨gm 609 (by decide +kernel) rfl, gm 610 (by decide +kernel) rfl⟩
theorem ok_X7_versionSought : OkM mX7_versionSought 3 := ⟨rfl, by decide +kernel, by decide +kernel, gm 501 (by decide +kernel) rfl, gm 48 (by decide +kernel) rfl⟩
theorem os_X7_versionSought : Cond.static yX7_versionSought ∈ lw_good := gm 500 (by decide +kernel) rfl
theorem ok_X7_withdrawEntry : OkM mX7_withdrawEntry 1 := ⟨rfl, by decide +kernel, by decide +kernel, gm 481 (by decide +kernel) rfl, gm 48 (by decide +kernel) rfl⟩
theorem ov_X7_withdrawEntry : OkV mX7_withdrawEntry := ⟨gm 480 (by decide +kernel) rfl, gm 9 (by decide +kernel) rfl⟩
theorem ok_X7_word : OkM mX7_word 2 := ⟨rfl, by decide +kernel, by decide +kernel, gm 574 (by decide +kernel) rfl, gm 48 (by decide +kernel) rfl⟩
theorem ov_X7_word : OkV mX7_word := ⟨gm 572 (by decide +kernel) rfl, gm 573 (by decide +kernel) rfl⟩
theorem ok_X8_cancel : OkM mX8_cancel 1 := ⟨rfl, by decide +kernel, by decide +kernel, gm 896 (by decide +kernel) rfl, gm 56 (by decide +kernel) rfl⟩
theorem ov_X8_cancel : OkV mX8_cancel := ⟨gm 894 (by decide +kernel) rfl, gm 895 (by decide +kernel) rfl⟩
theorem ok_X8_claims : OkM mX8_claims 1 := ⟨rfl, by decide +kernel, by decide +kernel, gm 852 (by decide +kernel) rfl, gm 56 (by decide +kernel) rfl⟩
theorem ov_X8_claims : OkV mX8_claims := ⟨gm 851 (by decide +kernel) rfl, gm 33 (by decide +kernel) rfl⟩
theorem ok_X8_count : OkM mX8_count 1 := ⟨rfl, by decide +kernel, by decide +kernel, gm 957 (by decide +kernel) rfl, gm 56 (by decide +kernel) rfl⟩
theorem ov_X8_count : OkV mX8_count := ⟨gm 955 (by decide +kernel) rfl, gm 956 (by decide +kernel) rfl⟩
theorem ok_X8_doubles : OkM mX8_doubles 0 := ⟨rfl, by decide +kernel, by decide +kernel, gm 937 (by decide +kernel) rfl, gm 56 (by decide +kernel) rfl⟩
theorem ov_X8_doubles : OkV mX8_doubles := ⟨gm 935 (by decide +kernel) rfl, gm 936 (by decide +kernel) rfl⟩
theorem ok_X8_empties : OkM mX8_empties 1 := ⟨rfl, by decide +kernel, by decide +kernel, gm 788 (by decide +kernel) rfl, gm 56 (by decide +kernel) rfl⟩
theorem ov_X8_empties : OkV mX8_empties := ⟨gm 787 (by decide +kernel) rfl, gm 22 (by decide +kernel) rfl⟩
theorem ok_X8_ends : OkM mX8_ends 1 := ⟨rfl, by decide +kernel, by decide +kernel, gm 824 (by decide +kernel) rfl, gm 56 (by decide +kernel) rfl⟩
theorem ov_X8_ends : OkV mX8_ends := ⟨gm 823 (by decide +kernel) rfl, gm 26 (by decide +kernel) rfl⟩
theorem ok_X8_entry : OkM mX8_entry 3 := ⟨rfl, by decide +kernel, by decide +kernel, gm 929 (by decide +kernel) rfl, gm 56 (by decide +kernel) rfl⟩
theorem ov_X8_entry : OkV mX8_entry := ⟨gm 927 (by decide +kernel) rfl, gm 928 (by decide +kernel) rfl⟩
theorem ok_X8_finish : OkM mX8_finish 1 := ⟨rfl, by decide +kernel, by decide +kernel, gm 904 (by decide +kernel) rfl, gm 56 (by decide +kernel) rfl⟩
theorem ov_X8_finish : OkV mX8_finish := ⟨gm 902 (by decide +kernel) rfl, gm 903 (by decide +kernel) rfl⟩
theorem ok_X8_goesOut : OkM mX8_goesOut 1 := ⟨rfl, by decide +kernel, by decide +kernel, gm 828 (by decide +kernel) rfl, gm 56 (by decide +kernel) rfl⟩
theorem ov_X8_goesOut : OkV mX8_goesOut := ⟨gm 827 (by decide +kernel) rfl, gm 27 (by decide +kernel) rfl⟩
theorem ok_X8_guard : OkM mX8_guard 5 := ⟨rfl, by decide +kernel, by decide +kernel, gm 796 (by decide +kernel) rfl, gm 56 (by decide +kernel) rfl⟩
theorem ov_X8_guard : OkV mX8_guard := ⟨gm 794 (by decide +kernel) rfl, gm 795 (by decide +kernel) rfl⟩
theorem ok_X8_held : OkM mX8_held 0 := ⟨rfl, by decide +kernel, by decide +kernel, gm 953 (by decide +kernel) rfl, gm 56 (by decide +kernel) rfl⟩
theorem ov_X8_held : OkV mX8_held := ⟨gm 951 (by decide +kernel) rfl, gm 952 (by decide +kernel) rfl⟩
theorem ok_X8_how : OkM mX8_how 1 := ⟨rfl, by decide +kernel, by decide +kernel, gm 892 (by decide +kernel) rfl, gm 56 (by decide +kernel) rfl⟩
theorem ov_X8_how : OkV mX8_how := ⟨gm 891 (by decide +kernel) rfl, gm 43 (by decide +kernel) rfl⟩
theorem ok_X8_init : OkM mX8_init 1 := ⟨rfl, by decide +kernel, by decide +kernel, gm 646 (by decide +kernel) rfl, gm 56 (by decide +kernel) rfl⟩
theorem oi_X8_init : Cond.instanceMethod yX8_init ∈ lw_good := gm 645 (by decide +kernel) rfl
theorem ok_X8_isBusy : OkM mX8_isBusy 3 := ⟨rfl, by decide +kernel, by decide +kernel, gm 868 (by decide +kernel) rfl, gm 56 (by decide +kernel) rfl⟩
theorem ov_X8_isBusy : OkV mX8_isBusy := ⟨gm 867 (by decide +kernel) rfl, gm 37 (by decide +kernel) rfl⟩
theorem ok_X8_isDue : OkM mX8_isDue 1 := ⟨rfl, by decide +kernel, by decide +kernel, gm 820 (by decide +kernel) rfl, gm 56 (by decide +kernel) rfl⟩
theorem ov_X8_isDue : OkV mX8_isDue := ⟨gm 819 (by decide +kernel) rfl, gm 25 (by decide +kernel) rfl⟩
theorem ok_X8_isEnded : OkM mX8_isEnded 1 := ⟨rfl, by decide +kernel, by decide +kernel, gm 864 (by decide +kernel) rfl, gm 56 (by decide +kernel) rfl⟩
theorem ov_X8_isEnded : OkV mX8_isEnded := ⟨gm 863 (by decide +kernel) rfl, gm 36 (by decide +kernel) rfl⟩
theorem ok_X8_isIn : OkM mX8_isIn 2 := ⟨rfl, by decide +kernel, by decide +kernel, gm 780 (by decide +kernel) rfl, gm 56 (by decide +kernel) rfl⟩
theorem ov_X8_isIn : OkV mX8_isIn := ⟨gm 779 (by decide +kernel) rfl, gm 20 (by decide +kernel) rfl⟩
theorem ok_X8_isOffering : OkM mX8_isOffering 1 := ⟨rfl, by decide +kernel, by decide +kernel, gm 900 (by decide +kernel) rfl, gm 56 (by decide +kernel) rfl⟩
theorem ov_X8_isOffering : OkV mX8_isOffering := ⟨gm 899 (by decide +kernel) rfl, gm 44 (by decide +kernel) rfl⟩
theorem ok_X8_isOne : OkM mX8_isOne 1 := ⟨rfl, by decide +kernel, by decide +kernel, gm 784 (by decide +kernel) rfl, gm 56 (by decide +kernel) rfl⟩
theorem ov_X8_isOne : OkV mX8_isOne := ⟨gm 783 (by decide +kernel) rfl, gm 21 (by decide +kernel) rfl⟩
theorem ok_X8_isUnmet : OkM mX8_isUnmet 1 := ⟨rfl, by decide +kernel, by decide +kernel, gm 945 (by decide +kernel) rfl, gm 56 (by decide +kernel) rfl⟩
theorem ov_X8_isUnmet : OkV mX8_isUnmet := ⟨gm 944 (by decide +kernel) rfl, gm 45 (by decide +kernel) rfl⟩
theorem ok_X8_looks : OkM mX8_looks 1 := ⟨rfl, by decide +kernel, by decide +kernel, gm 848 (by decide +kernel) rfl, gm 56 (by decide +kernel) rfl⟩
theorem ov_X8_looks : OkV mX8_looks := ⟨gm 847 (by decide +kernel) rfl, gm 32 (by decide +kernel) rfl⟩
theorem ok_X8_looksOn : OkM mX8_looksOn 2 := ⟨rfl, by decide +kernel, by decide +kernel, gm 844 (by decide +kernel) rfl, gm 56 (by decide +kernel) rfl⟩
theorem ov_X8_looksOn : OkV mX8_looksOn := ⟨gm 843 (by decide +kernel) rfl, gm 31 (by decide +kernel) rfl⟩
theorem ok_X8_match : OkM mX8_match 2 := ⟨rfl, by decide +kernel, by decide +kernel, gm 949 (by decide +kernel) rfl, gm 56 (by decide +kernel) rfl⟩
theorem ov_X8_match : OkV mX8_match := ⟨gm 948 (by decide +kernel) rfl, gm 46 (by decide +kernel) rfl⟩
theorem ok_X8_meets : OkM mX8_meets 1 := ⟨rfl, by decide +kernel, by decide +kernel, gm 876 (by decide +kernel) rfl, gm 56 (by decide +kernel) rfl⟩
theorem ov_X8_meets : OkV mX8_meets := ⟨gm 875 (by decide +kernel) rfl, gm 39 (by decide +kernel) rfl⟩
theorem ok_X8_offer : OkM mX8_offer 1 := ⟨rfl, by decide +kernel, by decide +kernel, gm 804 (by decide +kernel) rfl, gm 56 (by decide +kernel) rfl⟩
theorem ov_X8_offer : OkV mX8_offer := ⟨gm 802 (by decide +kernel) rfl, gm 803 (by decide +kernel) rfl⟩
theorem ok_X8_onBehind : OkM mX8_onBehind 2 := ⟨rfl, by decide +kernel, by decide +kernel, gm 808 (by decide +kernel) rfl, gm 56 (by decide +kernel) rfl⟩
theorem ov_X8_onBehind : OkV mX8_onBehind := ⟨gm 807 (by decide +kernel) rfl, gm 23 (by decide +kernel) rfl⟩
theorem ok_X8_outcome : OkM mX8_outcome 2 := ⟨rfl, by decide +kernel, by decide +kernel, gm 925 (by decide +kernel) rfl, gm 56 (by decide +kernel) rfl⟩
theorem ov_X8_outcome : OkV mX8_outcome := ⟨gm 923 (by decide +kernel) rfl, gm 924 (by decide +kernel) rfl⟩
theorem ok_X8_ownEntry : OkM mX8_ownEntry 1 := ⟨rfl, by decide +kernel, by decide +kernel, gm 836 (by decide +kernel) rfl, gm 56 (by decide +kernel) rfl⟩
theorem ov_X8_ownEntry : OkV mX8_ownEntry := ⟨gm 835 (by decide +kernel) rfl, gm 29 (by decide +kernel) rfl⟩
theorem ok_X8_pair : OkM mX8_pair 2 := ⟨rfl, by decide +kernel, by decide +kernel, gm 933 (by decide +kernel) rfl, gm 56 (by decide +kernel) rfl⟩
theorem ov_X8_pair : OkV mX8_pair := ⟨gm 931 (by decide +kernel) rfl, gm 932 (by decide +kernel) rfl⟩
theorem ok_X8_phase : OkM mX8_phase 1 := ⟨rfl, by decide +kernel, by decide +kernel, gm 917 (by decide +kernel) rfl, gm 56 (by decide +kernel) rfl⟩
theorem ov_X8_phase : OkV mX8_phase := ⟨gm 915 (by decide +kernel) rfl, gm 916 (by decide +kernel) rfl⟩
theorem ok_X8_publishes : OkM mX8_publishes 1 := ⟨rfl, by decide +kernel, by decide +kernel, gm 840 (by decide +kernel) rfl, gm 56 (by decide +kernel) rfl⟩
theorem ov_X8_publishes : OkV mX8_publishes := ⟨gm 839 (by decide +kernel) rfl, gm 30 (by decide +kernel) rfl⟩
theorem ok_X8_quit : OkM mX8_quit 1 := ⟨rfl, by decide +kernel, by decide +kernel, gm 792 (by decide +kernel) rfl, gm 56 (by decide +kernel) rfl⟩
theorem ov_X8_quit : OkV mX8_quit := ⟨gm 790 (by decide +kernel) rfl, gm 791 (by decide +kernel) rfl⟩
theorem ok_X8_removes : OkM mX8_removes 1 := ⟨rfl, by decide +kernel, by decide +kernel, gm 888 (by decide +kernel) rfl, gm 56 (by decide +kernel) rfl⟩
theorem ov_X8_removes : OkV mX8_removes := ⟨gm 887 (by decide +kernel) rfl, gm 42 (by decide +kernel) rfl⟩
theorem ok_X8_rests : OkM mX8_rests 1 := ⟨rfl, by decide +kernel, by decide +kernel, gm 884 (by decide +kernel) rfl, gm 56 (by decide +kernel) rfl⟩
theorem ov_X8_rests : OkV mX8_rests := ⟨gm 883 (by decide +kernel) rfl, gm 41 (by decide +kernel) rfl⟩
theorem ok_X8_run : OkM mX8_run 2 := ⟨rfl, by decide +kernel, by decide +kernel, gm 912 (by decide +kernel) rfl, gm 56 (by decide +kernel) rfl⟩
theorem ov_X8_run : OkV mX8_run := ⟨gm 910 (by decide +kernel) rfl, gm 911 (by decide +kernel) rfl⟩
theorem ok_X8_seconds : OkM mX8_seconds 1 := ⟨rfl, by decide +kernel, by decide +kernel, gm 872 (by decide +kernel) rfl, gm 56 (by decide +kernel) rfl⟩
theorem ov_X8_seconds : OkV mX8_seconds := ⟨gm 871 (by decide +kernel) rfl, gm 38 (by decide +kernel) rfl⟩
theorem ok_X8_spawn : OkM mX8_spawn 1 := ⟨rfl, by decide +kernel, by decide +kernel, gm 776 (by decide +kernel) rfl, gm 56 (by decide +kernel) rfl⟩
theorem ov_X8_spawn : OkV mX8_spawn := ⟨gm 774 (by decide +kernel) rfl, gm 775 (by decide +kernel) rfl⟩
theorem ok_X8_step : OkM mX8_step 1 := ⟨rfl, by decide +kernel, by decide +kernel, gm 812 (by decide +kernel) rfl, gm 56 (by decide +kernel) rfl⟩
theorem ov_X8_step : OkV mX8_step := ⟨gm 810 (by decide +kernel) rfl, gm 811 (by decide +kernel) rfl⟩
theorem ok_X8_tells : OkM mX8_tells 3 := ⟨rfl, by decide +kernel, by decide +kernel, gm 880 (by decide +kernel) rfl, gm 56 (by decide +kernel) rfl⟩
theorem ov_X8_tells : OkV mX8_tells := ⟨gm 879 (by decide +kernel) rfl, gm 40 (by decide +kernel) rfl⟩
theorem ok_X8_tick : OkM mX8_tick 0 := ⟨rfl, by decide +kernel, by decide +kernel, gm 908 (by decide +kernel) rfl, gm 56 (by decide +kernel) rfl⟩
theorem ov_X8_tick : OkV mX8_tick := ⟨gm 906 (by decide +kernel) rfl, gm 907 (by decide +kernel) rfl⟩
theorem ok_X8_timeout : OkM mX8_timeout 2 := ⟨rfl, by decide +kernel, by decide +kernel, gm 800 (by decide +kernel) rfl, gm 56 (by decide +kernel) rfl⟩
theorem ov_X8_timeout : OkV mX8_timeout := ⟨gm 798 (by decide +kernel) rfl, gm 799 (by decide +kernel) rfl⟩
theorem ok_X8_tries : OkM mX8_tries 3 := ⟨rfl, by decide +kernel, by decide +kernel, gm 860 (by decide +kernel) rfl, gm 56 (by decide +kernel) rfl⟩
theorem ov_X8_tries : OkV mX8_tries := ⟨gm 859 (by decide +kernel) rfl, gm 35 (by decide +kernel) rfl⟩
theorem ok_X8_turns : OkM mX8_turns 1 := ⟨rfl, by decide +kernel, by decide +kernel, gm 816 (by decide +kernel) rfl, gm 56 (by decide +kernel) rfl⟩
theorem ov_X8_turns : OkV mX8_turns := ⟨gm 815 (by decide +kernel) rfl, gm 24 (by decide +kernel) rfl⟩
theorem ok_X8_unmet : OkM mX8_unmet 0 := ⟨rfl, by decide +kernel, by decide +kernel, gm 941 (by decide +kernel) rfl, gm 56 (by decide +kernel) rfl⟩
theorem ov_X8_unmet : OkV mX8_unmet := ⟨gm 939 (by decide +kernel) rfl, gm 940 (by decide +kernel) rfl⟩
theorem ok_X8_versionOf : OkM mX8_versionOf 2 := ⟨rfl, by decide +kernel, by decide +kernel, gm 856 (by decide +kernel) rfl, gm 56 (by decide +kernel) rfl⟩
theorem ov_X8_versionOf : OkV mX8_versionOf := ⟨gm 855 (by decide +kernel) rfl, gm 34 (by decide +kernel) rfl⟩
theorem ok_X8_withdraws : OkM mX8_withdraws 1 := ⟨rfl, by decide +kernel, by decide +kernel, gm 832 (by decide +kernel) rfl, gm 56 (by decide +kernel) rfl⟩
theorem ov_X8_withdraws : OkV mX8_withdraws := ⟨gm 831 (by decide +kernel) rfl, gm 28 (by decide +kernel) rfl⟩
theorem ok_X8_word : OkM mX8_word 2 := ⟨rfl, by decide +kernel, by decide +kernel, gm 921 (by decide +kernel) rfl, gm 56 (by decide +kernel) rfl⟩
theorem ov_X8_word : OkV mX8_word := ⟨gm 919 (by decide +kernel) rfl, gm 920 (by decide +kernel) rfl⟩
theorem w_oi1 : Cond.instanceMethod objectInit ∈ lw_good := gm 64 (by decide +kernel) rfl
theorem w_oi2 : Cond.code objectInit ⟨#[0xb1]⟩ 1 none ∈ lw_good := gm 65 (by decide +kernel) rfl
theorem w_in0 : Cond.instantiable (cT 0).1 (nfl 0) ∈ lw_good := gm 397 (by decide +kernel) rfl
theorem w_it0 : Cond.initialized (cT 0).1 ∈ lw_good := gm 57 (by decide +kernel) rfl
theorem w_in1 : Cond.instantiable (cT 1).1 (nfl 1) ∈ lw_good := gm 237 (by decide +kernel) rfl
theorem w_it1 : Cond.initialized (cT 1).1 ∈ lw_good := gm 54 (by decide +kernel) rfl
theorem w_in2 : Cond.instantiable (cT 2).1 (nfl 2) ∈ lw_good := gm 127 (by decide +kernel) rfl
theorem w_it2 : Cond.initialized (cT 2).1 ∈ lw_good := gm 53 (by decide +kernel) rfl
theorem w_in3 : Cond.instantiable (cT 3).1 (nfl 3) ∈ lw_good := gm 102 (by decide +kernel) rfl
theorem w_it3 : Cond.initialized (cT 3).1 ∈ lw_good := gm 52 (by decide +kernel) rfl
theorem w_in4 : Cond.instantiable (cT 4).1 (nfl 4) ∈ lw_good := gm 252 (by decide +kernel) rfl
theorem w_it4 : Cond.initialized (cT 4).1 ∈ lw_good := gm 55 (by decide +kernel) rfl
theorem w_in5 : Cond.instantiable (cT 5).1 (nfl 5) ∈ lw_good := gm 74 (by decide +kernel) rfl
theorem w_it5 : Cond.initialized (cT 5).1 ∈ lw_good := gm 50 (by decide +kernel) rfl
theorem w_in6 : Cond.instantiable (cT 6).1 (nfl 6) ∈ lw_good := gm 80 (by decide +kernel) rfl
theorem w_it6 : Cond.initialized (cT 6).1 ∈ lw_good := gm 51 (by decide +kernel) rfl
theorem w_in7 : Cond.instantiable (cT 7).1 (nfl 7) ∈ lw_good := gm 59 (by decide +kernel) rfl
theorem w_it7 : Cond.initialized (cT 7).1 ∈ lw_good := gm 48 (by decide +kernel) rfl
theorem w_in8 : Cond.instantiable (cT 8).1 (nfl 8) ∈ lw_good := gm 643 (by decide +kernel) rfl
theorem w_it8 : Cond.initialized (cT 8).1 ∈ lw_good := gm 56 (by decide +kernel) rfl
theorem w_ai : Cond.arrayClass .int ∈ lw_good := gm 265 (by decide +kernel) rfl
theorem w_az : Cond.arrayClass .boolean ∈ lw_good := gm 772 (by decide +kernel) rfl
end
section
/-! ===== THE LAYOUT of the cells that the law makes: m processes ===== -/
def aX (E : Ev) : Nat := eB E
def aPA (E : Ev) : Nat := eB E + 1
def aP (E : Ev) (p : Nat) : Nat := eB E + 2 + 13 * p
def aW (E : Ev) (p : Nat) : Nat := eB E + 3 + 13 * p
def aT (E : Ev) (p : Nat) : Nat := eB E + 4 + 13 * p
def aGA (E : Ev) (p : Nat) : Nat := eB E + 5 + 13 * p
def aOA (E : Ev) (p : Nat) : Nat := eB E + 6 + 13 * p
def aG (E : Ev) (g : Nat) : Nat := eB E + 7 + 13 * (g / 8) + g % 8
def aLL (E : Ev) (m : Nat) : Nat := eB E + 2 + 13 * m
def aLs (E : Ev) (m c : Nat) : Nat := eB E + 3 + 13 * m + 2 * c
def aLA (E : Ev) (m c : Nat) : Nat := eB E + 4 + 13 * m + 2 * c
def aPL (E : Ev) (m : Nat) : Nat := eB E + 19 + 13 * m
def aPP (E : Ev) (m : Nat) : Nat := eB E + 20 + 13 * m
def aM (E : Ev) (m : Nat) : Nat := eB E + 21 + 13 * m
/-- the model's array that its field k holds -/
def aMA (E : Ev) (m k : Nat) : Nat := aM E m + (if k ≤ 30 then k - 6 else k - 7)
/-- the entry with the number n (1, 2, ..) -/
def aE (E : Ev) (m n : Nat) : Nat := eB E + 54 + 13 * m + n
/-- what the model's array of field k is: kind and length -/
def mKd (k : Nat) : Nat := if k = 12 ∨ k = 20 ∨ k = 24 ∨ k = 25 ∨ k = 26 ∨ k = 40 then 10 else 9
def mLn (k : Nat) : Nat := if k = 9 ∨ k = 10 ∨ k = 11 ∨ k = 12 then 128 else if k ≤ 30 then 16 else if k ≤ 37 then 130 else if k = 38 then 1600 else 16016
def isMA (k : Nat) : Prop := (7 ≤ k ∧ k ≤ 30) ∨ (32 ≤ k ∧ k ≤ 40)
def ad (E : Ev) (m ci i : Nat) : Nat := match ci with
  | 0 => aE E m i | 1 => aLs E m i | 2 => aG E i | 3 => aT E i | 4 => aPL E m | 5 => aP E i | 6 => aW E i | 7 => aX E | _ => aM E m
def vd (m np ci i : Nat) : Prop := match ci with
  | 0 => 1 ≤ i ∧ i ≤ np | 1 => i < 8 | 2 => i < 8 * m | 3 => i < m | 4 => i = 0 | 5 => i < m | 6 => i < m | 7 => i = 0 | 8 => i = 0 | _ => False
/-- the int fields that the states hold -/
def okf (ci k : Nat) : Bool := match ci with
  | 0 => Nat.blt k 5 | 1 => false | 2 => Nat.blt k 4 | 3 => Nat.blt k 5 | 4 => k == 1
  | 5 => (Nat.ble 5 k && Nat.blt k 20) && !(k == 11) && !(k == 15)
  | 6 => Nat.blt k 3 | 7 => Nat.ble 3 k && Nat.blt k 9 | _ => false
/-- kinds and lengths -/
def LY (E : Ev) (m : Nat) : Prop :=
  (2 ≤ m ∧ m ≤ 16) ∧ (∀ ci i np, ci < 9 → vd m np ci i → eK E (ad E m ci i) = ci) ∧ (eK E (aPA E) = 14 ∧ eN E (aPA E) = m) ∧
  (∀ p, p < m → (eK E (aGA E p) = 13 ∧ eN E (aGA E p) = 8) ∧ (eK E (aOA E p) = 11 ∧ eN E (aOA E p) = 8)) ∧
  (eK E (aLL E m) = 12 ∧ eN E (aLL E m) = 8) ∧ (∀ c, c < 8 → eK E (aLA E m c) = 11 ∧ eN E (aLA E m c) = 128) ∧
  (eK E (aPP E m) = 9 ∧ eN E (aPP E m) = 1600) ∧ (∀ k, isMA k → eK E (aMA E m k) = mKd k ∧ eN E (aMA E m k) = mLn k)
/-- the references that never change -/
def SR (E : Ev) (m : Nat) (h : Hp) : Prop :=
  (h.2.1 448 (aX E) = some (aPA E) ∧ h.2.1 449 (aX E) = some (aLL E m) ∧ h.2.1 450 (aX E) = some (aPL E m)) ∧
  (∀ p, p < m → h.2.2.2.1 (aPA E) p = some (aP E p)) ∧
  (∀ p, p < m → h.2.1 321 (aP E p) = some (aW E p) ∧ h.2.1 322 (aP E p) = some (aT E p) ∧ h.2.1 323 (aP E p) = some (aGA E p) ∧ h.2.1 324 (aP E p) = some (aOA E p)) ∧
  (∀ p j, p < m → j < 8 → h.2.2.2.1 (aGA E p) j = some (aG E (8 * p + j))) ∧
  (∀ c, c < 8 → h.2.2.2.1 (aLL E m) c = some (aLs E m c) ∧ h.2.1 64 (aLs E m c) = some (aLA E m c)) ∧
  h.2.1 256 (aPL E m) = some (aPP E m) ∧ (∀ k, isMA k → h.2.1 (512 + k) (aM E m) = some (aMA E m k))
/-! ===== THE STATES. The class's: ints by (field number, place), what each process met, the lists, what each published, how many were published. The model's: ints by (field, place) ===== -/
abbrev Sg : Type := (Nat → Nat → Int32) × (Nat → Option Nat) × (Nat → List Nat) × (Nat → List Nat) × Nat
abbrev Tu : Type := Nat → Nat → Int32
abbrev sMet (σ : Sg) : Nat → Option Nat := σ.2.1
abbrev sLs (σ : Sg) : Nat → List Nat := σ.2.2.1
abbrev sPb (σ : Sg) : Nat → List Nat := σ.2.2.2.1
abbrev sNp (σ : Sg) : Nat := σ.2.2.2.2
def up (σ : Sg) (f i : Nat) (v : Int32) : Sg := (fun g j => if g = f ∧ j = i then v else σ.1 g j, σ.2)
def uM (σ : Sg) (p : Nat) (v : Option Nat) : Sg := (σ.1, fun q => if q = p then v else σ.2.1 q, σ.2.2)
def uL (σ : Sg) (c : Nat) (l : List Nat) : Sg := (σ.1, σ.2.1, fun q => if q = c then l else σ.2.2.1 q, σ.2.2.2)
def uP (σ : Sg) (p : Nat) (l : List Nat) : Sg := (σ.1, σ.2.1, σ.2.2.1, fun q => if q = p then l else σ.2.2.2.1 q, σ.2.2.2.2)
def ut (τ : Tu) (k i : Nat) (v : Int32) : Tu := fun g j => if g = k ∧ j = i then v else τ g j
def RC (E : Ev) (m : Nat) (σ : Sg) (h : Hp) : Prop :=
  hn h = aE E m (sNp σ + 1) ∧
  (∀ ci k i, vd m (sNp σ) ci i → okf ci k = true → h.1 (64 * ci + k) (ad E m ci i) = σ.1 (64 * ci + k) i) ∧
  (∀ i, i < 1600 → h.2.2.1 (aPP E m) i = σ.1 900 i) ∧
  (∀ p, p < m → h.1 320 (aP E p) = nI p) ∧ (∀ n, 1 ≤ n → n ≤ sNp σ → h.1 5 (aE E m n) = nI n) ∧
  (∀ p, p < m → h.2.1 331 (aP E p) = (sMet σ p).map (aE E m)) ∧
  (∀ c, c < 8 → (sLs σ c).length ≤ 128 ∧ h.1 65 (aLs E m c) = nI (sLs σ c).length ∧ ∀ j, j < (sLs σ c).length → h.2.2.2.1 (aLA E m c) j = ((sLs σ c)[j]?).map (aE E m)) ∧
  (∀ p, p < m → (sPb σ p).length ≤ 8 ∧ h.1 335 (aP E p) = nI (sPb σ p).length ∧ ∀ j, j < (sPb σ p).length → h.2.2.2.1 (aOA E p) j = ((sPb σ p)[j]?).map (aE E m))
def RM (E : Ev) (m : Nat) (τ : Tu) (h : Hp) : Prop :=
  (∀ k, k < 7 ∨ k = 31 → h.1 (512 + k) (aM E m) = τ k 0) ∧ (∀ k i, isMA k → i < mLn k → h.2.2.1 (aMA E m k) i = τ k i)
def RR (E : Ev) (m : Nat) (σ : Sg) (τ : Tu) (h : Hp) : Prop := LY E m ∧ SR E m h ∧ RC E m σ h ∧ RM E m τ h
theorem ad_inj {E : Ev} {m np ci i j : Nat} (h1 : vd m np ci i) (h2 : vd m np ci j) (h : ad E m ci i = ad E m ci j) : i = j := by
  unfold ad at h
  unfold vd at h1 h2
  rcases ci with _ | _ | _ | _ | _ | _ | _ | _ | _ | n
  · simp only [aE] at h; omega
  · simp only [aLs] at h; omega
  · simp only [aG] at h; omega
  · simp only [aT] at h; omega
  · exact h1.trans h2.symm
  · simp only [aP] at h; omega
  · simp only [aW] at h; omega
  · exact h1.trans h2.symm
  · exact h1.trans h2.symm
  · exact h1.elim
theorem ad_in {E : Ev} {m : Nat} {σ : Sg} {h : Hp} (hR : RC E m σ h) {ci i : Nat} (hv : vd m (sNp σ) ci i) : eB E ≤ ad E m ci i ∧ ad E m ci i < hn h := by
  rw [hR.1]
  rcases ci with _ | _ | _ | _ | _ | _ | _ | _ | _ | n
  · have hv : 1 ≤ i ∧ i ≤ sNp σ := hv
    simp only [ad, aE]; omega
  · have hv : i < 8 := hv
    simp only [ad, aLs, aE]; omega
  · have hv : i < 8 * m := hv
    simp only [ad, aG, aE]; omega
  · have hv : i < m := hv
    simp only [ad, aT, aE]; omega
  · simp only [ad, aPL, aE]; omega
  · have hv : i < m := hv
    simp only [ad, aP, aE]; omega
  · have hv : i < m := hv
    simp only [ad, aW, aE]; omega
  · simp only [ad, aX, aE]; omega
  · simp only [ad, aM, aE]; omega
  · exact hv.elim
theorem RR.ob {E : Ev} {m : Nat} {σ : Sg} {τ : Tu} {h : Hp} (hR : RR E m σ τ h) {ci i : Nat} (hc : ci < 9) (hv : vd m (sNp σ) ci i) : Ob E h ci (ad E m ci i) := ⟨hR.1.2.1 ci i _ hc hv, (ad_in hR.2.2.1 hv).1, (ad_in hR.2.2.1 hv).2⟩
theorem okf_lt {ci k : Nat} (h : okf ci k = true) : ci < 9 ∧ k < nfl ci ∧ isRf ci k = false ∧ k < 64 ∧ 64 * ci + k ≠ 320 ∧ 64 * ci + k ≠ 5 ∧ 64 * ci + k ≠ 65 ∧ 64 * ci + k ≠ 335 ∧ 64 * ci + k < 512 := by
  unfold okf at h
  rcases ci with _ | _ | _ | _ | _ | _ | _ | _ | n
  · have : k < 5 := by simpa using h
    exact ⟨by omega, by show k < 6; omega, rfl, by omega, by omega, by omega, by omega, by omega, by omega⟩
  · simp at h
  · have : k < 4 := by simpa using h
    exact ⟨by omega, by show k < 4; omega, rfl, by omega, by omega, by omega, by omega, by omega, by omega⟩
  · have : k < 5 := by simpa using h
    exact ⟨by omega, by show k < 5; omega, rfl, by omega, by omega, by omega, by omega, by omega, by omega⟩
  · have : k = 1 := by simpa using h
    subst this
    decide
  · simp at h
    obtain ⟨⟨⟨h1, h2⟩, h3⟩, h4⟩ := h
    refine ⟨by omega, by show k < 20; omega, ?_, by omega, by omega, by omega, by omega, by omega, by omega⟩
    simp [isRf]
    omega
  · have : k < 3 := by simpa using h
    exact ⟨by omega, by show k < 3; omega, rfl, by omega, by omega, by omega, by omega, by omega, by omega⟩
  · simp at h
    refine ⟨by omega, by show k < 9; omega, ?_, by omega, by omega, by omega, by omega, by omega, by omega⟩
    simp [isRf]
    omega
  · simp at h
/-- an int of the class's state is written -/
theorem RR.put {E : Ev} {m : Nat} {σ : Sg} {τ : Tu} {h : Hp} (hR : RR E m σ τ h) {ci k i : Nat} (hv : vd m (sNp σ) ci i) (hk : okf ci k = true) (v : Int32) : RR E m (up σ (64 * ci + k) i v) τ (sI h (64 * ci + k) (ad E m ci i) v) := by
  obtain ⟨hL, hS, ⟨c1, c2, c3, c4, c5, c6, c7, c8⟩, ⟨m1, m2⟩⟩ := hR
  obtain ⟨o1, o2, o3, o4, o5, o6, o7, o8, o9⟩ := okf_lt hk
  refine ⟨hL, hS, ⟨c1, fun ci' k' i' hv' hk' => ?_, fun i' hi' => ?_, fun p hp => ?_, fun n h1 h2 => ?_, c6, fun c hc => ⟨(c7 c hc).1, ?_, (c7 c hc).2.2⟩, fun p hp => ⟨(c8 p hp).1, ?_, (c8 p hp).2.2⟩⟩, ⟨fun k' hk' => ?_, m2⟩⟩
  · obtain ⟨-, -, -, q4, -⟩ := okf_lt hk'
    show (if 64 * ci' + k' = 64 * ci + k ∧ ad E m ci' i' = ad E m ci i then v else h.1 (64 * ci' + k') (ad E m ci' i')) = if 64 * ci' + k' = 64 * ci + k ∧ i' = i then v else σ.1 (64 * ci' + k') i'
    by_cases hf : 64 * ci' + k' = 64 * ci + k
    · have e1 : ci' = ci := by omega
      have e2 : k' = k := by omega
      subst e1; subst e2
      by_cases hi : i' = i
      · subst hi; simp
      · rw [if_neg (fun q => hi (ad_inj hv' hv q.2)), if_neg (fun q => hi q.2)]
        exact c2 _ _ _ hv' hk'
    · rw [if_neg (fun q => hf q.1), if_neg (fun q => hf q.1)]
      exact c2 _ _ _ hv' hk'
  · show h.2.2.1 (aPP E m) i' = if 900 = 64 * ci + k ∧ i' = i then v else σ.1 900 i'
    rw [if_neg (by omega)]
    exact c3 i' hi'
  · show (if 320 = 64 * ci + k ∧ _ then v else h.1 320 (aP E p)) = _
    rw [if_neg (fun q => o5 q.1.symm)]
    exact c4 p hp
  · show (if 5 = 64 * ci + k ∧ _ then v else h.1 5 (aE E m n)) = _
    rw [if_neg (fun q => o6 q.1.symm)]
    exact c5 n h1 h2
  · show (if 65 = 64 * ci + k ∧ _ then v else h.1 65 (aLs E m c)) = _
    rw [if_neg (fun q => o7 q.1.symm)]
    exact (c7 c hc).2.1
  · show (if 335 = 64 * ci + k ∧ _ then v else h.1 335 (aP E p)) = _
    rw [if_neg (fun q => o8 q.1.symm)]
    exact (c8 p hp).2.1
  · show (if 512 + k' = 64 * ci + k ∧ _ then v else h.1 (512 + k') (aM E m)) = _
    rw [if_neg (by omega)]
    exact m1 k' hk'
section SRULES
variable {E : Ev} {M : MD} {R : Room} {Post : Option Value → Hp → Prop} {pc : Nat} {L : List (Option Value)} {st : List Value} {h : Hp} {ac as : Nat} {m : Nat} {σ : Sg} {τ : Tu}
theorem G_gI (pc' : Nat) (hp : pc + 3 = pc') (hR : RR E m σ τ h) {idx ci k i : Nat} (hf : FL M.1 idx ci k) (hv : vd m (sNp σ) ci i) (hk : okf ci k = true) {a : Nat} (ha : a = ad E m ci i) (hd : decode M.2.2.1 pc = .ok (.getfield idx, 3)) (kk : G E M R Post pc' L (.int (σ.1 (64 * ci + k) i) :: st) h ac as) : G E M R Post pc L (.ref a :: st) h ac as := by
  subst ha
  refine G_getI pc' hp hf (okf_lt hk).2.2.1 (hR.ob (okf_lt hk).1 hv) hd ?_
  rw [hR.2.2.1.2.1 ci k i hv hk]
  exact kk
theorem G_pI (pc' : Nat) (hp : pc + 3 = pc') (hR : RR E m σ τ h) {idx ci k i : Nat} {v : Int32} (hf : FL M.1 idx ci k) (hv : vd m (sNp σ) ci i) (hk : okf ci k = true) (hty : tyF ci k = .int ∧ ((cT ci).2.1 k).2.2.2 = false) {a : Nat} (ha : a = ad E m ci i) (hd : decode M.2.2.1 pc = .ok (.putfield idx, 3)) (kk : ∀ h', RR E m (up σ (64 * ci + k) i v) τ h' → G E M R Post pc' L st h' ac as) : G E M R Post pc L (.int v :: .ref a :: st) h ac as := by
  subst ha
  exact G_putI pc' hp hf ⟨(okf_lt hk).2.2.1, hty⟩ (hR.ob (okf_lt hk).1 hv) hd (kk _ (hR.put hv hk v))
theorem G_pZ (pc' : Nat) (hp : pc + 3 = pc') (hR : RR E m σ τ h) {idx ci k i : Nat} {v : Int32} (hf : FL M.1 idx ci k) (hv : vd m (sNp σ) ci i) (hk : okf ci k = true) (hty : tyF ci k = .boolean ∧ ((cT ci).2.1 k).2.2.2 = false) (h01 : v = 0 ∨ v = 1) {a : Nat} (ha : a = ad E m ci i) (hd : decode M.2.2.1 pc = .ok (.putfield idx, 3)) (kk : ∀ h', RR E m (up σ (64 * ci + k) i v) τ h' → G E M R Post pc' L st h' ac as) : G E M R Post pc L (.int v :: .ref a :: st) h ac as := by
  subst ha
  exact G_putZ pc' hp hf ⟨(okf_lt hk).2.2.1, hty⟩ h01 (hR.ob (okf_lt hk).1 hv) hd (kk _ (hR.put hv hk v))
end SRULES
end
section
section SRULES2
variable {E : Ev} {M : MD} {R : Room} {Post : Option Value → Hp → Prop} {pc : Nat} {L : List (Option Value)} {st : List Value} {h : Hp} {ac as : Nat} {m : Nat} {σ : Sg} {τ : Tu}
/-! ===== constants on the stack: the branch that is taken is known ===== -/
theorem G_ifT_eq (tgt : Nat) {x : Int32} {off : Int} (hx : x = 0) (ht : (pc : Int) + off = (tgt : Int)) (hd : decode M.2.2.1 pc = .ok (.ifCond .eq off, 3)) (kt : G E M R Post tgt L st h ac as) : G E M R Post pc L (.int x :: st) h ac as := G_if_eq tgt (pc + 3) rfl ht hd (fun _ => kt) (fun q => absurd hx q)
theorem G_ifF_eq (pc' : Nat) (hp : pc + 3 = pc') {x : Int32} {off : Int} (hx : ¬ x = 0) (ht : ∃ tgt : Nat, (pc : Int) + off = (tgt : Int)) (hd : decode M.2.2.1 pc = .ok (.ifCond .eq off, 3)) (kf : G E M R Post pc' L st h ac as) : G E M R Post pc L (.int x :: st) h ac as := by
  obtain ⟨tgt, ht⟩ := ht
  exact G_if_eq tgt pc' hp ht hd (fun q => absurd q hx) (fun _ => kf)
theorem G_icmpT_eq (tgt : Nat) {x y : Int32} {off : Int} (hx : x = y) (ht : (pc : Int) + off = (tgt : Int)) (hd : decode M.2.2.1 pc = .ok (.if_icmp .eq off, 3)) (kt : G E M R Post tgt L st h ac as) : G E M R Post pc L (.int y :: .int x :: st) h ac as := G_icmp_eq tgt (pc + 3) rfl ht hd (fun _ => kt) (fun q => absurd hx q)
theorem G_icmpF_eq (pc' : Nat) (hp : pc + 3 = pc') {x y : Int32} {off : Int} (hx : ¬ x = y) (ht : ∃ tgt : Nat, (pc : Int) + off = (tgt : Int)) (hd : decode M.2.2.1 pc = .ok (.if_icmp .eq off, 3)) (kf : G E M R Post pc' L st h ac as) : G E M R Post pc L (.int y :: .int x :: st) h ac as := by
  obtain ⟨tgt, ht⟩ := ht
  exact G_icmp_eq tgt pc' hp ht hd (fun q => absurd q hx) (fun _ => kf)
theorem G_ifT_ne (tgt : Nat) {x : Int32} {off : Int} (hx : ¬ x = 0) (ht : (pc : Int) + off = (tgt : Int)) (hd : decode M.2.2.1 pc = .ok (.ifCond .ne off, 3)) (kt : G E M R Post tgt L st h ac as) : G E M R Post pc L (.int x :: st) h ac as := G_if_ne tgt (pc + 3) rfl ht hd (fun _ => kt) (fun q => absurd hx (fun z => z q))
theorem G_ifF_ne (pc' : Nat) (hp : pc + 3 = pc') {x : Int32} {off : Int} (hx : x = 0) (ht : ∃ tgt : Nat, (pc : Int) + off = (tgt : Int)) (hd : decode M.2.2.1 pc = .ok (.ifCond .ne off, 3)) (kf : G E M R Post pc' L st h ac as) : G E M R Post pc L (.int x :: st) h ac as := by
  obtain ⟨tgt, ht⟩ := ht
  exact G_if_ne tgt pc' hp ht hd (fun q => absurd q (fun z => z hx)) (fun _ => kf)
theorem G_icmpT_ne (tgt : Nat) {x y : Int32} {off : Int} (hx : ¬ x = y) (ht : (pc : Int) + off = (tgt : Int)) (hd : decode M.2.2.1 pc = .ok (.if_icmp .ne off, 3)) (kt : G E M R Post tgt L st h ac as) : G E M R Post pc L (.int y :: .int x :: st) h ac as := G_icmp_ne tgt (pc + 3) rfl ht hd (fun _ => kt) (fun q => absurd hx (fun z => z q))
theorem G_icmpF_ne (pc' : Nat) (hp : pc + 3 = pc') {x y : Int32} {off : Int} (hx : x = y) (ht : ∃ tgt : Nat, (pc : Int) + off = (tgt : Int)) (hd : decode M.2.2.1 pc = .ok (.if_icmp .ne off, 3)) (kf : G E M R Post pc' L st h ac as) : G E M R Post pc L (.int y :: .int x :: st) h ac as := by
  obtain ⟨tgt, ht⟩ := ht
  exact G_icmp_ne tgt pc' hp ht hd (fun q => absurd q (fun z => z hx)) (fun _ => kf)
theorem G_ifT_lt (tgt : Nat) {x : Int32} {off : Int} (hx : x < 0) (ht : (pc : Int) + off = (tgt : Int)) (hd : decode M.2.2.1 pc = .ok (.ifCond .lt off, 3)) (kt : G E M R Post tgt L st h ac as) : G E M R Post pc L (.int x :: st) h ac as := G_if_lt tgt (pc + 3) rfl ht hd (fun _ => kt) (fun q => absurd hx q)
theorem G_ifF_lt (pc' : Nat) (hp : pc + 3 = pc') {x : Int32} {off : Int} (hx : ¬ x < 0) (ht : ∃ tgt : Nat, (pc : Int) + off = (tgt : Int)) (hd : decode M.2.2.1 pc = .ok (.ifCond .lt off, 3)) (kf : G E M R Post pc' L st h ac as) : G E M R Post pc L (.int x :: st) h ac as := by
  obtain ⟨tgt, ht⟩ := ht
  exact G_if_lt tgt pc' hp ht hd (fun q => absurd q hx) (fun _ => kf)
theorem G_icmpT_lt (tgt : Nat) {x y : Int32} {off : Int} (hx : x < y) (ht : (pc : Int) + off = (tgt : Int)) (hd : decode M.2.2.1 pc = .ok (.if_icmp .lt off, 3)) (kt : G E M R Post tgt L st h ac as) : G E M R Post pc L (.int y :: .int x :: st) h ac as := G_icmp_lt tgt (pc + 3) rfl ht hd (fun _ => kt) (fun q => absurd hx q)
theorem G_icmpF_lt (pc' : Nat) (hp : pc + 3 = pc') {x y : Int32} {off : Int} (hx : ¬ x < y) (ht : ∃ tgt : Nat, (pc : Int) + off = (tgt : Int)) (hd : decode M.2.2.1 pc = .ok (.if_icmp .lt off, 3)) (kf : G E M R Post pc' L st h ac as) : G E M R Post pc L (.int y :: .int x :: st) h ac as := by
  obtain ⟨tgt, ht⟩ := ht
  exact G_icmp_lt tgt pc' hp ht hd (fun q => absurd q hx) (fun _ => kf)
theorem G_ifT_ge (tgt : Nat) {x : Int32} {off : Int} (hx : 0 ≤ x) (ht : (pc : Int) + off = (tgt : Int)) (hd : decode M.2.2.1 pc = .ok (.ifCond .ge off, 3)) (kt : G E M R Post tgt L st h ac as) : G E M R Post pc L (.int x :: st) h ac as := G_if_ge tgt (pc + 3) rfl ht hd (fun _ => kt) (fun q => absurd hx q)
theorem G_ifF_ge (pc' : Nat) (hp : pc + 3 = pc') {x : Int32} {off : Int} (hx : ¬ 0 ≤ x) (ht : ∃ tgt : Nat, (pc : Int) + off = (tgt : Int)) (hd : decode M.2.2.1 pc = .ok (.ifCond .ge off, 3)) (kf : G E M R Post pc' L st h ac as) : G E M R Post pc L (.int x :: st) h ac as := by
  obtain ⟨tgt, ht⟩ := ht
  exact G_if_ge tgt pc' hp ht hd (fun q => absurd q hx) (fun _ => kf)
theorem G_icmpT_ge (tgt : Nat) {x y : Int32} {off : Int} (hx : y ≤ x) (ht : (pc : Int) + off = (tgt : Int)) (hd : decode M.2.2.1 pc = .ok (.if_icmp .ge off, 3)) (kt : G E M R Post tgt L st h ac as) : G E M R Post pc L (.int y :: .int x :: st) h ac as := G_icmp_ge tgt (pc + 3) rfl ht hd (fun _ => kt) (fun q => absurd hx q)
theorem G_icmpF_ge (pc' : Nat) (hp : pc + 3 = pc') {x y : Int32} {off : Int} (hx : ¬ y ≤ x) (ht : ∃ tgt : Nat, (pc : Int) + off = (tgt : Int)) (hd : decode M.2.2.1 pc = .ok (.if_icmp .ge off, 3)) (kf : G E M R Post pc' L st h ac as) : G E M R Post pc L (.int y :: .int x :: st) h ac as := by
  obtain ⟨tgt, ht⟩ := ht
  exact G_icmp_ge tgt pc' hp ht hd (fun q => absurd q hx) (fun _ => kf)
theorem G_ifT_gt (tgt : Nat) {x : Int32} {off : Int} (hx : 0 < x) (ht : (pc : Int) + off = (tgt : Int)) (hd : decode M.2.2.1 pc = .ok (.ifCond .gt off, 3)) (kt : G E M R Post tgt L st h ac as) : G E M R Post pc L (.int x :: st) h ac as := G_if_gt tgt (pc + 3) rfl ht hd (fun _ => kt) (fun q => absurd hx q)
theorem G_ifF_gt (pc' : Nat) (hp : pc + 3 = pc') {x : Int32} {off : Int} (hx : ¬ 0 < x) (ht : ∃ tgt : Nat, (pc : Int) + off = (tgt : Int)) (hd : decode M.2.2.1 pc = .ok (.ifCond .gt off, 3)) (kf : G E M R Post pc' L st h ac as) : G E M R Post pc L (.int x :: st) h ac as := by
  obtain ⟨tgt, ht⟩ := ht
  exact G_if_gt tgt pc' hp ht hd (fun q => absurd q hx) (fun _ => kf)
theorem G_icmpT_gt (tgt : Nat) {x y : Int32} {off : Int} (hx : y < x) (ht : (pc : Int) + off = (tgt : Int)) (hd : decode M.2.2.1 pc = .ok (.if_icmp .gt off, 3)) (kt : G E M R Post tgt L st h ac as) : G E M R Post pc L (.int y :: .int x :: st) h ac as := G_icmp_gt tgt (pc + 3) rfl ht hd (fun _ => kt) (fun q => absurd hx q)
theorem G_icmpF_gt (pc' : Nat) (hp : pc + 3 = pc') {x y : Int32} {off : Int} (hx : ¬ y < x) (ht : ∃ tgt : Nat, (pc : Int) + off = (tgt : Int)) (hd : decode M.2.2.1 pc = .ok (.if_icmp .gt off, 3)) (kf : G E M R Post pc' L st h ac as) : G E M R Post pc L (.int y :: .int x :: st) h ac as := by
  obtain ⟨tgt, ht⟩ := ht
  exact G_icmp_gt tgt pc' hp ht hd (fun q => absurd q hx) (fun _ => kf)
theorem G_ifT_le (tgt : Nat) {x : Int32} {off : Int} (hx : x ≤ 0) (ht : (pc : Int) + off = (tgt : Int)) (hd : decode M.2.2.1 pc = .ok (.ifCond .le off, 3)) (kt : G E M R Post tgt L st h ac as) : G E M R Post pc L (.int x :: st) h ac as := G_if_le tgt (pc + 3) rfl ht hd (fun _ => kt) (fun q => absurd hx q)
theorem G_ifF_le (pc' : Nat) (hp : pc + 3 = pc') {x : Int32} {off : Int} (hx : ¬ x ≤ 0) (ht : ∃ tgt : Nat, (pc : Int) + off = (tgt : Int)) (hd : decode M.2.2.1 pc = .ok (.ifCond .le off, 3)) (kf : G E M R Post pc' L st h ac as) : G E M R Post pc L (.int x :: st) h ac as := by
  obtain ⟨tgt, ht⟩ := ht
  exact G_if_le tgt pc' hp ht hd (fun q => absurd q hx) (fun _ => kf)
theorem G_icmpT_le (tgt : Nat) {x y : Int32} {off : Int} (hx : x ≤ y) (ht : (pc : Int) + off = (tgt : Int)) (hd : decode M.2.2.1 pc = .ok (.if_icmp .le off, 3)) (kt : G E M R Post tgt L st h ac as) : G E M R Post pc L (.int y :: .int x :: st) h ac as := G_icmp_le tgt (pc + 3) rfl ht hd (fun _ => kt) (fun q => absurd hx q)
theorem G_icmpF_le (pc' : Nat) (hp : pc + 3 = pc') {x y : Int32} {off : Int} (hx : ¬ x ≤ y) (ht : ∃ tgt : Nat, (pc : Int) + off = (tgt : Int)) (hd : decode M.2.2.1 pc = .ok (.if_icmp .le off, 3)) (kf : G E M R Post pc' L st h ac as) : G E M R Post pc L (.int y :: .int x :: st) h ac as := by
  obtain ⟨tgt, ht⟩ := ht
  exact G_icmp_le tgt pc' hp ht hd (fun q => absurd q hx) (fun _ => kf)
/-! ===== the class's references ===== -/
theorem RR.obPA (hR : RR E m σ τ h) : Ob E h 14 (aPA E) := ⟨hR.1.2.2.1.1, by simp only [aPA]; omega, by rw [hR.2.2.1.1]; simp only [aPA, aE]; omega⟩
theorem RR.obGA (hR : RR E m σ τ h) {p : Nat} (hp : p < m) : Ob E h 13 (aGA E p) := ⟨(hR.1.2.2.2.1 p hp).1.1, by simp only [aGA]; omega, by rw [hR.2.2.1.1]; simp only [aGA, aE]; omega⟩
theorem RR.obOA (hR : RR E m σ τ h) {p : Nat} (hp : p < m) : Ob E h 11 (aOA E p) := ⟨(hR.1.2.2.2.1 p hp).2.1, by simp only [aOA]; omega, by rw [hR.2.2.1.1]; simp only [aOA, aE]; omega⟩
theorem RR.obLL (hR : RR E m σ τ h) : Ob E h 12 (aLL E m) := ⟨hR.1.2.2.2.2.1.1, by simp only [aLL]; omega, by rw [hR.2.2.1.1]; simp only [aLL, aE]; omega⟩
theorem RR.obLA (hR : RR E m σ τ h) {c : Nat} (hc : c < 8) : Ob E h 11 (aLA E m c) := ⟨(hR.1.2.2.2.2.2.1 c hc).1, by simp only [aLA]; omega, by rw [hR.2.2.1.1]; simp only [aLA, aE]; omega⟩
theorem RR.obPP (hR : RR E m σ τ h) : Ob E h 9 (aPP E m) := ⟨hR.1.2.2.2.2.2.2.1.1, by simp only [aPP]; omega, by rw [hR.2.2.1.1]; simp only [aPP, aE]; omega⟩
theorem RR.obMA (hR : RR E m σ τ h) {k : Nat} (hk : isMA k) : Ob E h (mKd k) (aMA E m k) := ⟨(hR.1.2.2.2.2.2.2.2 k hk).1, by simp only [aMA, aM]; omega, by
  rw [hR.2.2.1.1]
  simp only [aMA, aM, aE]
  unfold isMA at hk
  split <;> omega⟩
theorem RR.lnMA (hR : RR E m σ τ h) {k : Nat} (hk : isMA k) : eN E (aMA E m k) = mLn k := (hR.1.2.2.2.2.2.2.2 k hk).2
theorem G_x0 (pc' : Nat) (hp : pc + 3 = pc') (hR : RR E m σ τ h) {idx : Nat} (hf : FL M.1 idx 7 0) (hd : decode M.2.2.1 pc = .ok (.getfield idx, 3)) (kk : G E M R Post pc' L (.ref (aPA E) :: st) h ac as) : G E M R Post pc L (.ref (aX E) :: st) h ac as := G_getR pc' hp hf rfl (hR.ob (ci := 7) (i := 0) (by omega) rfl) hR.2.1.1.1 hd kk
theorem G_x1 (pc' : Nat) (hp : pc + 3 = pc') (hR : RR E m σ τ h) {idx : Nat} (hf : FL M.1 idx 7 1) (hd : decode M.2.2.1 pc = .ok (.getfield idx, 3)) (kk : G E M R Post pc' L (.ref (aLL E m) :: st) h ac as) : G E M R Post pc L (.ref (aX E) :: st) h ac as := G_getR pc' hp hf rfl (hR.ob (ci := 7) (i := 0) (by omega) rfl) hR.2.1.1.2.1 hd kk
theorem G_x2 (pc' : Nat) (hp : pc + 3 = pc') (hR : RR E m σ τ h) {idx : Nat} (hf : FL M.1 idx 7 2) (hd : decode M.2.2.1 pc = .ok (.getfield idx, 3)) (kk : G E M R Post pc' L (.ref (aPL E m) :: st) h ac as) : G E M R Post pc L (.ref (aX E) :: st) h ac as := G_getR pc' hp hf rfl (hR.ob (ci := 7) (i := 0) (by omega) rfl) hR.2.1.1.2.2 hd kk
theorem G_procs (pc' : Nat) (hp : pc + 1 = pc') (hR : RR E m σ τ h) {i : Int32} {p : Nat} (hi : i = nI p) (hpm : p < m) (hd : decode M.2.2.1 pc = .ok (.aaload, 1)) (kk : G E M R Post pc' L (.ref (aP E p) :: st) h ac as) : G E M R Post pc L (.int i :: .ref (aPA E) :: st) h ac as :=
  G_aaloadR pc' hp p hi hR.obPA (by omega) (by omega) (by rw [hR.1.2.2.1.2]; exact hpm) (by have := hR.1.1; omega) (hR.2.1.2.1 p hpm) hd kk
theorem G_lists (pc' : Nat) (hp : pc + 1 = pc') (hR : RR E m σ τ h) {i : Int32} {c : Nat} (hi : i = nI c) (hc : c < 8) (hd : decode M.2.2.1 pc = .ok (.aaload, 1)) (kk : G E M R Post pc' L (.ref (aLs E m c) :: st) h ac as) : G E M R Post pc L (.int i :: .ref (aLL E m) :: st) h ac as :=
  G_aaloadR pc' hp c hi hR.obLL (by omega) (by omega) (by rw [hR.1.2.2.2.2.1.2]; exact hc) (by omega) (hR.2.1.2.2.2.2.1 c hc).1 hd kk
theorem G_guards (pc' : Nat) (hp : pc + 1 = pc') (hR : RR E m σ τ h) {i : Int32} {p j : Nat} (hi : i = nI j) (hpm : p < m) (hj : j < 8) (hd : decode M.2.2.1 pc = .ok (.aaload, 1)) (kk : G E M R Post pc' L (.ref (aG E (8 * p + j)) :: st) h ac as) : G E M R Post pc L (.int i :: .ref (aGA E p) :: st) h ac as :=
  G_aaloadR pc' hp j hi (hR.obGA hpm) (by omega) (by omega) (by rw [(hR.1.2.2.2.1 p hpm).1.2]; exact hj) (by omega) (hR.2.1.2.2.2.1 p j hpm hj) hd kk
theorem G_p1 (pc' : Nat) (hp : pc + 3 = pc') (hR : RR E m σ τ h) {idx p : Nat} (hf : FL M.1 idx 5 1) (hpm : p < m) (hd : decode M.2.2.1 pc = .ok (.getfield idx, 3)) (kk : G E M R Post pc' L (.ref (aW E p) :: st) h ac as) : G E M R Post pc L (.ref (aP E p) :: st) h ac as := G_getR pc' hp hf rfl (hR.ob (ci := 5) (i := p) (by omega) hpm) (hR.2.1.2.2.1 p hpm).1 hd kk
theorem G_p2 (pc' : Nat) (hp : pc + 3 = pc') (hR : RR E m σ τ h) {idx p : Nat} (hf : FL M.1 idx 5 2) (hpm : p < m) (hd : decode M.2.2.1 pc = .ok (.getfield idx, 3)) (kk : G E M R Post pc' L (.ref (aT E p) :: st) h ac as) : G E M R Post pc L (.ref (aP E p) :: st) h ac as := G_getR pc' hp hf rfl (hR.ob (ci := 5) (i := p) (by omega) hpm) (hR.2.1.2.2.1 p hpm).2.1 hd kk
theorem G_p3 (pc' : Nat) (hp : pc + 3 = pc') (hR : RR E m σ τ h) {idx p : Nat} (hf : FL M.1 idx 5 3) (hpm : p < m) (hd : decode M.2.2.1 pc = .ok (.getfield idx, 3)) (kk : G E M R Post pc' L (.ref (aGA E p) :: st) h ac as) : G E M R Post pc L (.ref (aP E p) :: st) h ac as := G_getR pc' hp hf rfl (hR.ob (ci := 5) (i := p) (by omega) hpm) (hR.2.1.2.2.1 p hpm).2.2.1 hd kk
theorem G_p4 (pc' : Nat) (hp : pc + 3 = pc') (hR : RR E m σ τ h) {idx p : Nat} (hf : FL M.1 idx 5 4) (hpm : p < m) (hd : decode M.2.2.1 pc = .ok (.getfield idx, 3)) (kk : G E M R Post pc' L (.ref (aOA E p) :: st) h ac as) : G E M R Post pc L (.ref (aP E p) :: st) h ac as := G_getR pc' hp hf rfl (hR.ob (ci := 5) (i := p) (by omega) hpm) (hR.2.1.2.2.1 p hpm).2.2.2 hd kk
theorem G_p0 (pc' : Nat) (hp : pc + 3 = pc') (hR : RR E m σ τ h) {idx p : Nat} (hf : FL M.1 idx 5 0) (hpm : p < m) (hd : decode M.2.2.1 pc = .ok (.getfield idx, 3)) (kk : G E M R Post pc' L (.int (nI p) :: st) h ac as) : G E M R Post pc L (.ref (aP E p) :: st) h ac as := by
  refine G_getI pc' hp hf rfl (hR.ob (ci := 5) (i := p) (by omega) hpm) hd ?_
  rw [show h.1 (64 * 5 + 0) (aP E p) = nI p from hR.2.2.1.2.2.2.1 p hpm]
  exact kk
theorem G_e5 (pc' : Nat) (hp : pc + 3 = pc') (hR : RR E m σ τ h) {idx n : Nat} (hf : FL M.1 idx 0 5) (hn1 : 1 ≤ n ∧ n ≤ sNp σ) (hd : decode M.2.2.1 pc = .ok (.getfield idx, 3)) (kk : G E M R Post pc' L (.int (nI n) :: st) h ac as) : G E M R Post pc L (.ref (aE E m n) :: st) h ac as := by
  refine G_getI pc' hp hf rfl (hR.ob (ci := 0) (i := n) (by omega) hn1) hd ?_
  rw [show h.1 (64 * 0 + 5) (aE E m n) = nI n from hR.2.2.1.2.2.2.2.1 n hn1.1 hn1.2]
  exact kk
theorem G_p15 (pc' : Nat) (hp : pc + 3 = pc') (hR : RR E m σ τ h) {idx p : Nat} (hf : FL M.1 idx 5 15) (hpm : p < m) (hd : decode M.2.2.1 pc = .ok (.getfield idx, 3)) (kk : G E M R Post pc' L (.int (nI (sPb σ p).length) :: st) h ac as) : G E M R Post pc L (.ref (aP E p) :: st) h ac as := by
  refine G_getI pc' hp hf rfl (hR.ob (ci := 5) (i := p) (by omega) hpm) hd ?_
  rw [show h.1 (64 * 5 + 15) (aP E p) = nI (sPb σ p).length from (hR.2.2.1.2.2.2.2.2.2.2 p hpm).2.1]
  exact kk
theorem G_l1 (pc' : Nat) (hp : pc + 3 = pc') (hR : RR E m σ τ h) {idx c : Nat} (hf : FL M.1 idx 1 1) (hc : c < 8) (hd : decode M.2.2.1 pc = .ok (.getfield idx, 3)) (kk : G E M R Post pc' L (.int (nI (sLs σ c).length) :: st) h ac as) : G E M R Post pc L (.ref (aLs E m c) :: st) h ac as := by
  refine G_getI pc' hp hf rfl (hR.ob (ci := 1) (i := c) (by omega) hc) hd ?_
  rw [show h.1 (64 * 1 + 1) (aLs E m c) = nI (sLs σ c).length from (hR.2.2.1.2.2.2.2.2.2.1 c hc).2.1]
  exact kk
theorem G_l0 (pc' : Nat) (hp : pc + 3 = pc') (hR : RR E m σ τ h) {idx c : Nat} (hf : FL M.1 idx 1 0) (hc : c < 8) (hd : decode M.2.2.1 pc = .ok (.getfield idx, 3)) (kk : G E M R Post pc' L (.ref (aLA E m c) :: st) h ac as) : G E M R Post pc L (.ref (aLs E m c) :: st) h ac as := G_getR pc' hp hf rfl (hR.ob (ci := 1) (i := c) (by omega) hc) (hR.2.1.2.2.2.2.1 c hc).2 hd kk
theorem G_g0 (pc' : Nat) (hp : pc + 3 = pc') (hR : RR E m σ τ h) {idx : Nat} (hf : FL M.1 idx 4 0) (hd : decode M.2.2.1 pc = .ok (.getfield idx, 3)) (kk : G E M R Post pc' L (.ref (aPP E m) :: st) h ac as) : G E M R Post pc L (.ref (aPL E m) :: st) h ac as := G_getR pc' hp hf rfl (hR.ob (ci := 4) (i := 0) (by omega) rfl) hR.2.1.2.2.2.2.2.1 hd kk
theorem G_met (pc' : Nat) (hp : pc + 3 = pc') (hR : RR E m σ τ h) {idx p : Nat} (hf : FL M.1 idx 5 11) (hpm : p < m) (hd : decode M.2.2.1 pc = .ok (.getfield idx, 3)) (kk : G E M R Post pc' L (va_rf ((sMet σ p).map (aE E m)) :: st) h ac as) : G E M R Post pc L (.ref (aP E p) :: st) h ac as := by
  refine G_getQ pc' hp hf rfl (hR.ob (ci := 5) (i := p) (by omega) hpm) hd ?_
  rw [show h.2.1 (64 * 5 + 11) (aP E p) = _ from hR.2.2.1.2.2.2.2.2.1 p hpm]
  exact kk
theorem aP_inj {E : Ev} {p q : Nat} (h : aP E p = aP E q) : p = q := by simp only [aP] at h; omega
theorem RR.putMet (hR : RR E m σ τ h) {p : Nat} (hpm : p < m) (v : Option Nat) : RR E m (uM σ p v) τ (sR h 331 (aP E p) (v.map (aE E m))) := by
  obtain ⟨hL, ⟨s1, s2, s3, s4, s5, s6, s7⟩, ⟨c1, c2, c3, c4, c5, c6, c7, c8⟩, hM⟩ := hR
  have key : ∀ f a, f ≠ 331 → (sR h 331 (aP E p) (v.map (aE E m))).2.1 f a = h.2.1 f a := fun f a hf => by
    show (if f = 331 ∧ a = aP E p then _ else h.2.1 f a) = _
    rw [if_neg (fun q => hf q.1)]
  refine ⟨hL, ⟨⟨?_, ?_, ?_⟩, s2, fun q hq => ⟨?_, ?_, ?_, ?_⟩, s4, fun c hc => ⟨(s5 c hc).1, ?_⟩, ?_, fun k hk => ?_⟩, ⟨c1, c2, c3, c4, c5, fun q hq => ?_, c7, c8⟩, hM⟩
  · rw [key _ _ (by omega)]; exact s1.1
  · rw [key _ _ (by omega)]; exact s1.2.1
  · rw [key _ _ (by omega)]; exact s1.2.2
  · rw [key _ _ (by omega)]; exact (s3 q hq).1
  · rw [key _ _ (by omega)]; exact (s3 q hq).2.1
  · rw [key _ _ (by omega)]; exact (s3 q hq).2.2.1
  · rw [key _ _ (by omega)]; exact (s3 q hq).2.2.2
  · rw [key _ _ (by omega)]; exact (s5 c hc).2
  · rw [key _ _ (by omega)]; exact s6
  · rw [key _ _ (by omega)]; exact s7 k hk
  · show (if 331 = 331 ∧ aP E q = aP E p then v.map (aE E m) else h.2.1 331 (aP E q)) = (if q = p then v else σ.2.1 q).map (aE E m)
    by_cases hqp : q = p
    · subst hqp; simp
    · rw [if_neg (fun z => hqp (aP_inj z.2)), if_neg hqp]
      exact c6 q hq
theorem G_putMet (pc' : Nat) (hp : pc + 3 = pc') (hR : RR E m σ τ h) {idx p n : Nat} (hf : FL M.1 idx 5 11) (hpm : p < m) (hd : decode M.2.2.1 pc = .ok (.putfield idx, 3)) (kk : ∀ h', RR E m (uM σ p (some n)) τ h' → G E M R Post pc' L st h' ac as) : G E M R Post pc L (.ref (aE E m n) :: .ref (aP E p) :: st) h ac as :=
  G_putR pc' hp hf ⟨rfl, rfl, rfl⟩ (hR.ob (ci := 5) (i := p) (by omega) hpm) hd (kk _ (hR.putMet hpm (some n)))
theorem G_putMetN (pc' : Nat) (hp : pc + 3 = pc') (hR : RR E m σ τ h) {idx p : Nat} (hf : FL M.1 idx 5 11) (hpm : p < m) (hd : decode M.2.2.1 pc = .ok (.putfield idx, 3)) (kk : ∀ h', RR E m (uM σ p none) τ h' → G E M R Post pc' L st h' ac as) : G E M R Post pc L (.null :: .ref (aP E p) :: st) h ac as :=
  G_putN pc' hp hf ⟨rfl, rfl, rfl⟩ (hR.ob (ci := 5) (i := p) (by omega) hpm) hd (kk _ (hR.putMet hpm none))
/-! ===== lists, what was published, pairs ===== -/
theorem G_oAt (pc' : Nat) (hp : pc + 1 = pc') (hR : RR E m σ τ h) {i : Int32} {p j n : Nat} (hi : i = nI j) (hpm : p < m) (hj : (sPb σ p)[j]? = some n) (hd : decode M.2.2.1 pc = .ok (.aaload, 1)) (kk : G E M R Post pc' L (.ref (aE E m n) :: st) h ac as) : G E M R Post pc L (.int i :: .ref (aOA E p) :: st) h ac as := by
  have c8 := hR.2.2.1.2.2.2.2.2.2.2 p hpm
  have hl : j < (sPb σ p).length := (List.getElem?_eq_some_iff.mp hj).1
  refine G_aaloadR pc' hp j hi (hR.obOA hpm) (by omega) (by omega) (by rw [(hR.1.2.2.2.1 p hpm).2.2]; have := c8.1; omega) (by have := c8.1; omega) (b := aE E m n) ?_ hd kk
  rw [c8.2.2 j hl, hj]
  rfl
theorem G_ppGet (pc' : Nat) (hp : pc + 1 = pc') (hR : RR E m σ τ h) {i : Int32} {j : Nat} (hi : i = nI j) (hj : j < 1600) (hd : decode M.2.2.1 pc = .ok (.iaload, 1)) (kk : G E M R Post pc' L (.int (σ.1 900 j) :: st) h ac as) : G E M R Post pc L (.int i :: .ref (aPP E m) :: st) h ac as := by
  refine G_iaload pc' hp j hi hR.obPP (by rw [hR.1.2.2.2.2.2.2.1.2]; exact hj) (by omega) hd ?_
  rw [hR.2.2.1.2.2.1 j hj]
  exact kk
theorem aPP_ne {E : Ev} {m k : Nat} (hk : isMA k) : aMA E m k ≠ aPP E m := by
  unfold isMA at hk
  simp only [aMA, aPP, aM]
  split <;> omega
theorem RR.putPP (hR : RR E m σ τ h) {j : Nat} (v : Int32) : RR E m (up σ 900 j v) τ (sA h (aPP E m) j v) := by
  obtain ⟨hL, hS, ⟨c1, c2, c3, c4, c5, c6, c7, c8⟩, ⟨m1, m2⟩⟩ := hR
  refine ⟨hL, hS, ⟨c1, fun ci k i hv hk => ?_, fun i hi => ?_, c4, c5, c6, c7, c8⟩, ⟨m1, fun k i hk hi => ?_⟩⟩
  · show h.1 _ _ = if 64 * ci + k = 900 ∧ i = j then v else σ.1 (64 * ci + k) i
    obtain ⟨-, -, -, -, -, -, -, -, o9⟩ := okf_lt hk
    rw [if_neg (by omega)]
    exact c2 ci k i hv hk
  · show (if aPP E m = aPP E m ∧ i = j then v else h.2.2.1 (aPP E m) i) = if 900 = 900 ∧ i = j then v else σ.1 900 i
    by_cases hij : i = j
    · simp [hij]
    · rw [if_neg (fun q => hij q.2), if_neg (fun q => hij q.2)]
      exact c3 i hi
  · show (if aMA E m k = aPP E m ∧ i = j then v else h.2.2.1 (aMA E m k) i) = _
    rw [if_neg (fun q => aPP_ne hk q.1)]
    exact m2 k i hk hi
theorem G_ppPut (pc' : Nat) (hp : pc + 1 = pc') (hR : RR E m σ τ h) {i v : Int32} {j : Nat} (hi : i = nI j) (hj : j < 1600) (hd : decode M.2.2.1 pc = .ok (.iastore, 1)) (kk : ∀ h', RR E m (up σ 900 j v) τ h' → G E M R Post pc' L st h' ac as) : G E M R Post pc L (.int v :: .int i :: .ref (aPP E m) :: st) h ac as :=
  G_iastore pc' hp j hi hR.obPP (by rw [hR.1.2.2.2.2.2.2.1.2]; exact hj) (by omega) hd (kk _ (hR.putPP v))
/-! ===== the model's ===== -/
theorem G_mI (pc' : Nat) (hp : pc + 3 = pc') (hR : RR E m σ τ h) {idx k : Nat} (hf : FL M.1 idx 8 k) (hk : k < 7 ∨ k = 31) (hi : isRf 8 k = false) (hd : decode M.2.2.1 pc = .ok (.getfield idx, 3)) (kk : G E M R Post pc' L (.int (τ k 0) :: st) h ac as) : G E M R Post pc L (.ref (aM E m) :: st) h ac as := by
  refine G_getI pc' hp hf hi (hR.ob (ci := 8) (i := 0) (by omega) rfl) hd ?_
  rw [show h.1 (64 * 8 + k) (aM E m) = τ k 0 from hR.2.2.2.1 k hk]
  exact kk
theorem G_mR (pc' : Nat) (hp : pc + 3 = pc') (hR : RR E m σ τ h) {idx k : Nat} (hf : FL M.1 idx 8 k) (hk : isMA k) (hi : isRf 8 k = true) (hd : decode M.2.2.1 pc = .ok (.getfield idx, 3)) (kk : G E M R Post pc' L (.ref (aMA E m k) :: st) h ac as) : G E M R Post pc L (.ref (aM E m) :: st) h ac as :=
  G_getR pc' hp hf hi (hR.ob (ci := 8) (i := 0) (by omega) rfl) (show h.2.1 (64 * 8 + k) (aM E m) = _ from hR.2.1.2.2.2.2.2.2 k hk) hd kk
theorem ad_ne_M {E : Ev} {m np ci i : Nat} (hv : vd m np ci i) (hc : ci < 8) : ad E m ci i ≠ aM E m := by
  rcases ci with _ | _ | _ | _ | _ | _ | _ | _ | n
  · simp only [ad, aE, aM]; omega
  · have hv : i < 8 := hv
    simp only [ad, aLs, aM]; omega
  · have hv : i < 8 * m := hv
    simp only [ad, aG, aM]; omega
  · have hv : i < m := hv
    simp only [ad, aT, aM]; omega
  · simp only [ad, aPL, aM]; omega
  · have hv : i < m := hv
    simp only [ad, aP, aM]; omega
  · have hv : i < m := hv
    simp only [ad, aW, aM]; omega
  · simp only [ad, aX, aM]; omega
  · omega
theorem RR.putM (hR : RR E m σ τ h) {k : Nat} (v : Int32) (hk : k < 7 ∨ k = 31) : RR E m σ (ut τ k 0 v) (sI h (512 + k) (aM E m) v) := by
  obtain ⟨hL, hS, ⟨c1, c2, c3, c4, c5, c6, c7, c8⟩, ⟨m1, m2⟩⟩ := hR
  refine ⟨hL, hS, ⟨c1, fun ci k' i hv' hk' => ?_, c3, fun p hp => ?_, fun n h1 h2 => ?_, c6, fun c hc => ⟨(c7 c hc).1, ?_, (c7 c hc).2.2⟩, fun p hp => ⟨(c8 p hp).1, ?_, (c8 p hp).2.2⟩⟩, ⟨fun k' hk' => ?_, fun k' i hk' hi => ?_⟩⟩
  · obtain ⟨-, -, -, -, -, -, -, -, o9⟩ := okf_lt hk'
    show (if 64 * ci + k' = 512 + k ∧ _ then v else h.1 _ _) = _
    rw [if_neg (by omega)]
    exact c2 _ _ _ hv' hk'
  · show (if 320 = 512 + k ∧ _ then v else h.1 320 (aP E p)) = _
    rw [if_neg (by omega)]; exact c4 p hp
  · show (if 5 = 512 + k ∧ _ then v else h.1 5 (aE E m n)) = _
    rw [if_neg (by omega)]; exact c5 n h1 h2
  · show (if 65 = 512 + k ∧ _ then v else h.1 65 (aLs E m c)) = _
    rw [if_neg (by omega)]; exact (c7 c hc).2.1
  · show (if 335 = 512 + k ∧ _ then v else h.1 335 (aP E p)) = _
    rw [if_neg (by omega)]; exact (c8 p hp).2.1
  · show (if 512 + k' = 512 + k ∧ aM E m = aM E m then v else h.1 (512 + k') (aM E m)) = if k' = k ∧ 0 = 0 then v else τ k' 0
    by_cases q : k' = k
    · simp [q]
    · rw [if_neg (by omega), if_neg (by omega)]; exact m1 k' hk'
  · show h.2.2.1 (aMA E m k') i = if k' = k ∧ i = 0 then v else τ k' i
    rw [if_neg (by unfold isMA at hk'; omega)]
    exact m2 k' i hk' hi
theorem G_pM (pc' : Nat) (hp : pc + 3 = pc') (hR : RR E m σ τ h) {idx k : Nat} {v : Int32} (hf : FL M.1 idx 8 k) (hk : k < 7 ∨ k = 31) (hi : isRf 8 k = false ∧ tyF 8 k = .int ∧ ((cT 8).2.1 k).2.2.2 = false) (hd : decode M.2.2.1 pc = .ok (.putfield idx, 3)) (kk : ∀ h', RR E m σ (ut τ k 0 v) h' → G E M R Post pc' L st h' ac as) : G E M R Post pc L (.int v :: .ref (aM E m) :: st) h ac as :=
  G_putI pc' hp hf hi (hR.ob (ci := 8) (i := 0) (by omega) rfl) hd (kk _ (hR.putM v hk))
theorem aMA_inj {E : Ev} {m k k' : Nat} (h1 : isMA k) (h2 : isMA k') (h : aMA E m k = aMA E m k') : k = k' := by
  unfold isMA at h1 h2
  simp only [aMA] at h
  split at h <;> split at h <;> omega
theorem RR.putMA (hR : RR E m σ τ h) {k j : Nat} (v : Int32) (hk : isMA k) : RR E m σ (ut τ k j v) (sA h (aMA E m k) j v) := by
  obtain ⟨hL, hS, ⟨c1, c2, c3, c4, c5, c6, c7, c8⟩, ⟨m1, m2⟩⟩ := hR
  refine ⟨hL, hS, ⟨c1, c2, fun i hi => ?_, c4, c5, c6, c7, c8⟩, ⟨fun k' hk' => ?_, fun k' i hk' hi => ?_⟩⟩
  · show (if aPP E m = aMA E m k ∧ i = j then v else h.2.2.1 (aPP E m) i) = _
    rw [if_neg (fun q => aPP_ne hk q.1.symm)]
    exact c3 i hi
  · show h.1 (512 + k') (aM E m) = if k' = k ∧ 0 = j then v else τ k' 0
    rw [if_neg (by unfold isMA at hk; omega)]
    exact m1 k' hk'
  · show (if aMA E m k' = aMA E m k ∧ i = j then v else h.2.2.1 (aMA E m k') i) = if k' = k ∧ i = j then v else τ k' i
    by_cases q : k' = k ∧ i = j
    · obtain ⟨rfl, rfl⟩ := q; simp
    · rw [if_neg (fun z => q ⟨aMA_inj hk' hk z.1, z.2⟩), if_neg q]
      exact m2 k' i hk' hi
theorem G_mld (pc' : Nat) (hp : pc + 1 = pc') (hR : RR E m σ τ h) {i : Int32} {k : Nat} (j : Nat) (hi : i = nI j) (hk : isMA k) (hkd : mKd k = 9) (hj : j < mLn k) (hd : decode M.2.2.1 pc = .ok (.iaload, 1)) (kk : G E M R Post pc' L (.int (τ k j) :: st) h ac as) : G E M R Post pc L (.int i :: .ref (aMA E m k) :: st) h ac as := by
  have hl : mLn k ≤ 16016 := by unfold mLn; repeat' split
                                all_goals omega
  refine G_iaload pc' hp j hi (by have := hR.obMA hk; rw [hkd] at this; exact this) (by rw [hR.lnMA hk]; exact hj) (by omega) hd ?_
  rw [hR.2.2.2.2 k j hk hj]
  exact kk
theorem G_mldZ (pc' : Nat) (hp : pc + 1 = pc') (hR : RR E m σ τ h) {i : Int32} {k : Nat} (j : Nat) (hi : i = nI j) (hk : isMA k) (hkd : mKd k = 10) (hj : j < mLn k) (hd : decode M.2.2.1 pc = .ok (.baload, 1)) (kk : G E M R Post pc' L (.int (τ k j) :: st) h ac as) : G E M R Post pc L (.int i :: .ref (aMA E m k) :: st) h ac as := by
  have hl : mLn k ≤ 16016 := by unfold mLn; repeat' split
                                all_goals omega
  refine G_baload pc' hp j hi (by have := hR.obMA hk; rw [hkd] at this; exact this) (by rw [hR.lnMA hk]; exact hj) (by omega) hd ?_
  rw [hR.2.2.2.2 k j hk hj]
  exact kk
theorem G_mst (pc' : Nat) (hp : pc + 1 = pc') (hR : RR E m σ τ h) {i v : Int32} {k : Nat} (j : Nat) (hi : i = nI j) (hk : isMA k) (hkd : mKd k = 9) (hj : j < mLn k) (hd : decode M.2.2.1 pc = .ok (.iastore, 1)) (kk : ∀ h', RR E m σ (ut τ k j v) h' → G E M R Post pc' L st h' ac as) : G E M R Post pc L (.int v :: .int i :: .ref (aMA E m k) :: st) h ac as := by
  have hl : mLn k ≤ 16016 := by unfold mLn; repeat' split
                                all_goals omega
  exact G_iastore pc' hp j hi (by have := hR.obMA hk; rw [hkd] at this; exact this) (by rw [hR.lnMA hk]; exact hj) (by omega) hd (kk _ (hR.putMA v hk))
theorem G_mstZ (pc' : Nat) (hp : pc + 1 = pc') (hR : RR E m σ τ h) {i v : Int32} {k : Nat} (j : Nat) (hi : i = nI j) (hk : isMA k) (hkd : mKd k = 10) (hj : j < mLn k) (h01 : v = 0 ∨ v = 1) (hd : decode M.2.2.1 pc = .ok (.bastore, 1)) (kk : ∀ h', RR E m σ (ut τ k j v) h' → G E M R Post pc' L st h' ac as) : G E M R Post pc L (.int v :: .int i :: .ref (aMA E m k) :: st) h ac as := by
  have hl : mLn k ≤ 16016 := by unfold mLn; repeat' split
                                all_goals omega
  exact G_bastore pc' hp j hi (by have := hR.obMA hk; rw [hkd] at this; exact this) (by rw [hR.lnMA hk]; exact hj) (by omega) h01 hd (kk _ (hR.putMA v hk))
end SRULES2
end
section
section MORE
variable {E : Ev} {M : MD} {R : Room} {Post : Option Value → Hp → Prop} {pc : Nat} {L : List (Option Value)} {st : List Value} {h : Hp} {ac as : Nat} {m : Nat} {σ : Sg} {τ : Tu}
theorem tb_out {x : Int32} {n : Nat} (hn : n < 2 ^ 31) (h : ∀ j, j ≤ n → x ≠ nI j) : x.toInt < 0 ∨ (n : Int) < x.toInt := by
  by_cases h1 : x.toInt < 0
  · exact Or.inl h1
  · by_cases h2 : (n : Int) < x.toInt
    · exact Or.inr h2
    · exfalso
      have h3 : vp_in x (n + 1) := vp_in_iff.mpr ⟨by omega, by push_cast; omega⟩
      by_cases h4 : n + 1 < 2 ^ 31
      · obtain ⟨j, hj, e⟩ := vp_in_of h3 h4
        exact h j (by omega) e
      · have e : x.toInt.toNat ≤ n := by omega
        refine h _ e ?_
        apply Int32.toInt_inj.mp
        rw [nI_toInt (by omega)]
        omega
theorem up_same (σ : Sg) (f i : Nat) (v : Int32) : (up σ f i v).1 f i = v := by simp [up]
theorem up_fne (σ : Sg) {f g : Nat} (i j : Nat) (v : Int32) (h : g ≠ f) : (up σ f i v).1 g j = σ.1 g j := by simp [up, h]
theorem up_ine (σ : Sg) (f g : Nat) {i j : Nat} (v : Int32) (h : j ≠ i) : (up σ f i v).1 g j = σ.1 g j := by simp [up, h]
theorem ut_same (τ : Tu) (f i : Nat) (v : Int32) : ut τ f i v f i = v := by simp [ut]
theorem ut_fne (τ : Tu) {f g : Nat} (i j : Nat) (v : Int32) (h : g ≠ f) : ut τ f i v g j = τ g j := by simp [ut, h]
theorem ut_ine (τ : Tu) (f g : Nat) {i j : Nat} (v : Int32) (h : j ≠ i) : ut τ f i v g j = τ g j := by simp [ut, h]
theorem G_gi (pc' : Nat) (hp : pc + 3 = pc') (hR : RR E m σ τ h) (ci k i f : Nat) (v : Int32) {idx : Nat} (hf : FL M.1 idx ci k) (hv : vd m (sNp σ) ci i) (hk : okf ci k = true) {a : Nat} (ha : a = ad E m ci i) (he : 64 * ci + k = f) (hv2 : σ.1 f i = v) (hd : decode M.2.2.1 pc = .ok (.getfield idx, 3)) (kk : G E M R Post pc' L (.int v :: st) h ac as) : G E M R Post pc L (.ref a :: st) h ac as := by
  subst he; subst hv2
  exact G_gI pc' hp hR hf hv hk ha hd kk
theorem G_pi (pc' : Nat) (hp : pc + 3 = pc') (hR : RR E m σ τ h) (ci k i f : Nat) {v : Int32} {idx : Nat} (hf : FL M.1 idx ci k) (hv : vd m (sNp σ) ci i) (hk : okf ci k = true) (hty : tyF ci k = .int ∧ ((cT ci).2.1 k).2.2.2 = false) {a : Nat} (ha : a = ad E m ci i) (he : 64 * ci + k = f) (hd : decode M.2.2.1 pc = .ok (.putfield idx, 3)) (kk : ∀ h', RR E m (up σ f i v) τ h' → G E M R Post pc' L st h' ac as) : G E M R Post pc L (.int v :: .ref a :: st) h ac as := by
  subst he
  exact G_pI pc' hp hR hf hv hk hty ha hd kk
theorem G_pz (pc' : Nat) (hp : pc + 3 = pc') (hR : RR E m σ τ h) (ci k i f : Nat) {v : Int32} {idx : Nat} (hf : FL M.1 idx ci k) (hv : vd m (sNp σ) ci i) (hk : okf ci k = true) (hty : tyF ci k = .boolean ∧ ((cT ci).2.1 k).2.2.2 = false) (h01 : v = 0 ∨ v = 1) {a : Nat} (ha : a = ad E m ci i) (he : 64 * ci + k = f) (hd : decode M.2.2.1 pc = .ok (.putfield idx, 3)) (kk : ∀ h', RR E m (up σ f i v) τ h' → G E M R Post pc' L st h' ac as) : G E M R Post pc L (.int v :: .ref a :: st) h ac as := by
  subst he
  exact G_pZ pc' hp hR hf hv hk hty h01 ha hd kk
theorem G_metS (pc' : Nat) (hp : pc + 3 = pc') (hR : RR E m σ τ h) {idx p n : Nat} (hm : sMet σ p = some n) (hf : FL M.1 idx 5 11) (hpm : p < m) (hd : decode M.2.2.1 pc = .ok (.getfield idx, 3)) (kk : G E M R Post pc' L (.ref (aE E m n) :: st) h ac as) : G E M R Post pc L (.ref (aP E p) :: st) h ac as := by
  refine G_met pc' hp hR hf hpm hd ?_
  rw [hm]
  exact kk
theorem G_metN (pc' : Nat) (hp : pc + 3 = pc') (hR : RR E m σ τ h) {idx p : Nat} (hm : sMet σ p = none) (hf : FL M.1 idx 5 11) (hpm : p < m) (hd : decode M.2.2.1 pc = .ok (.getfield idx, 3)) (kk : G E M R Post pc' L (.null :: st) h ac as) : G E M R Post pc L (.ref (aP E p) :: st) h ac as := by
  refine G_met pc' hp hR hf hpm hd ?_
  rw [hm]
  exact kk
theorem G_lAtS (pc' : Nat) (hp : pc + 1 = pc') (hR : RR E m σ τ h) {i : Int32} {c j n : Nat} (hi : i = nI j) (hc : c < 8) (hn : (sLs σ c)[j]? = some n) (hd : decode M.2.2.1 pc = .ok (.aaload, 1)) (kk : G E M R Post pc' L (.ref (aE E m n) :: st) h ac as) : G E M R Post pc L (.int i :: .ref (aLA E m c) :: st) h ac as := by
  have c7 := hR.2.2.1.2.2.2.2.2.2.1 c hc
  have hl : j < (sLs σ c).length := (List.getElem?_eq_some_iff.mp hn).1
  refine G_aaloadR pc' hp j hi (hR.obLA hc) (by omega) (by omega) (by rw [(hR.1.2.2.2.2.2.1 c hc).2]; have := c7.1; omega) (by have := c7.1; omega) (b := aE E m n) ?_ hd kk
  rw [c7.2.2 j hl, hn]
  rfl
/-- fewer locals are known -/
theorem G_lw (L' : List (Option Value)) (hL' : ∀ (k : Nat) (v : Value), L'[k]? = some (some v) → L[k]? = some (some v)) (kk : G E M R Post pc L' st h ac as) : G E M R Post pc L st h ac as := by
  intro p e s m args below meth c H locs cells slots ls C hH hS hL h1 h2
  exact kk p e s m args below meth c H locs cells slots ls C hH hS ⟨hL.1, hL.2.1, fun k v hk => hL.2.2 k v (hL' k v hk)⟩ h1 h2
theorem G_lenPA (pc' : Nat) (hp : pc + 1 = pc') (hR : RR E m σ τ h) (hd : decode M.2.2.1 pc = .ok (.arraylength, 1)) (kk : G E M R Post pc' L (.int (nI m) :: st) h ac as) : G E M R Post pc L (.ref (aPA E) :: st) h ac as := by
  refine G_alen pc' hp hR.obPA (by omega) (by omega) hd ?_
  rw [hR.1.2.2.1.2]; exact kk
theorem G_lenLL (pc' : Nat) (hp : pc + 1 = pc') (hR : RR E m σ τ h) (hd : decode M.2.2.1 pc = .ok (.arraylength, 1)) (kk : G E M R Post pc' L (.int 8 :: st) h ac as) : G E M R Post pc L (.ref (aLL E m) :: st) h ac as := by
  refine G_alen pc' hp hR.obLL (by omega) (by omega) hd ?_
  rw [hR.1.2.2.2.2.1.2]; exact kk
theorem G_lenGA (pc' : Nat) (hp : pc + 1 = pc') (hR : RR E m σ τ h) {p : Nat} (hpm : p < m) (hd : decode M.2.2.1 pc = .ok (.arraylength, 1)) (kk : G E M R Post pc' L (.int 8 :: st) h ac as) : G E M R Post pc L (.ref (aGA E p) :: st) h ac as := by
  refine G_alen pc' hp (hR.obGA hpm) (by omega) (by omega) hd ?_
  rw [(hR.1.2.2.2.1 p hpm).1.2]; exact kk
theorem G_lenOA (pc' : Nat) (hp : pc + 1 = pc') (hR : RR E m σ τ h) {p : Nat} (hpm : p < m) (hd : decode M.2.2.1 pc = .ok (.arraylength, 1)) (kk : G E M R Post pc' L (.int 8 :: st) h ac as) : G E M R Post pc L (.ref (aOA E p) :: st) h ac as := by
  refine G_alen pc' hp (hR.obOA hpm) (by omega) (by omega) hd ?_
  rw [(hR.1.2.2.2.1 p hpm).2.2]; exact kk
theorem G_lenLA (pc' : Nat) (hp : pc + 1 = pc') (hR : RR E m σ τ h) {c : Nat} (hc : c < 8) (hd : decode M.2.2.1 pc = .ok (.arraylength, 1)) (kk : G E M R Post pc' L (.int 128 :: st) h ac as) : G E M R Post pc L (.ref (aLA E m c) :: st) h ac as := by
  refine G_alen pc' hp (hR.obLA hc) (by omega) (by omega) hd ?_
  rw [(hR.1.2.2.2.2.2.1 c hc).2]; exact kk
theorem G_mi (pc' : Nat) (hp : pc + 3 = pc') (hR : RR E m σ τ h) {idx k : Nat} {v : Int32} (hv : τ k 0 = v) (hf : FL M.1 idx 8 k) (hk : k < 7 ∨ k = 31) (hi : isRf 8 k = false) (hd : decode M.2.2.1 pc = .ok (.getfield idx, 3)) (kk : G E M R Post pc' L (.int v :: st) h ac as) : G E M R Post pc L (.ref (aM E m) :: st) h ac as := by
  subst hv
  exact G_mI pc' hp hR hf hk hi hd kk
theorem G_mldV (pc' : Nat) (hp : pc + 1 = pc') (hR : RR E m σ τ h) {i : Int32} {k : Nat} (j : Nat) {v : Int32} (hv : τ k j = v) (hi : i = nI j) (hk : isMA k) (hkd : mKd k = 9) (hj : j < mLn k) (hd : decode M.2.2.1 pc = .ok (.iaload, 1)) (kk : G E M R Post pc' L (.int v :: st) h ac as) : G E M R Post pc L (.int i :: .ref (aMA E m k) :: st) h ac as := by
  subst hv
  exact G_mld pc' hp hR j hi hk hkd hj hd kk
theorem G_mldZV (pc' : Nat) (hp : pc + 1 = pc') (hR : RR E m σ τ h) {i : Int32} {k : Nat} (j : Nat) {v : Int32} (hv : τ k j = v) (hi : i = nI j) (hk : isMA k) (hkd : mKd k = 10) (hj : j < mLn k) (hd : decode M.2.2.1 pc = .ok (.baload, 1)) (kk : G E M R Post pc' L (.int v :: st) h ac as) : G E M R Post pc L (.int i :: .ref (aMA E m k) :: st) h ac as := by
  subst hv
  exact G_mldZ pc' hp hR j hi hk hkd hj hd kk
theorem gvd {p j : Nat} (hp : p < m) (hj : j < 8) : 8 * p + j < 8 * m := by omega
end MORE
theorem toInt_ne {x : Int32} {n : Int} (y : Int32) (hy : y.toInt = n) (h : ¬ x = y) : x.toInt ≠ n := fun q => h (Int32.toInt_inj.mp (q.trans hy.symm))
theorem look_out {x : Int32} (h0 : ¬ x = 0) (h1 : ¬ x = 1) (h10 : ¬ x = 10) (h12 : ¬ x = 12) : Op.lookupswitch.offset [(0, 44), (1, 46), (10, 48), (12, 50)] 70 x.toInt = 70 := by
  have e0 : x.toInt ≠ 0 := toInt_ne 0 (by decide) h0
  have e1 : x.toInt ≠ 1 := toInt_ne 1 (by decide) h1
  have e2 : x.toInt ≠ 10 := toInt_ne 10 (by decide) h10
  have e3 : x.toInt ≠ 12 := toInt_ne 12 (by decide) h12
  simp [Op.lookupswitch.offset, Ne.symm e0, Ne.symm e1, Ne.symm e2, Ne.symm e3, e0, e1, e2, e3]
theorem w_max_c : Cond.code Lib.Math.max.name Lib.Math.max.code 2 (some .int) ∈ lw_good := gm 71 (by decide +kernel) rfl
theorem w_max_s : Cond.static Lib.Math.max.name ∈ lw_good := gm 70 (by decide +kernel) rfl
theorem w_max_lX5 : Cond.methodLink RX5 106 Lib.Math.max.name ∈ lw_good := gm 346 (by decide +kernel) rfl
theorem w_max_lX7 : Cond.methodLink RX7 15 Lib.Math.max.name ∈ lw_good := gm 69 (by decide +kernel) rfl
theorem w_min_c : Cond.code Lib.Math.min.name Lib.Math.min.code 2 (some .int) ∈ lw_good := gm 68 (by decide +kernel) rfl
theorem w_min_s : Cond.static Lib.Math.min.name ∈ lw_good := gm 67 (by decide +kernel) rfl
theorem w_min_lX7 : Cond.methodLink RX7 9 Lib.Math.min.name ∈ lw_good := gm 66 (by decide +kernel) rfl
theorem w_math : Cond.initialized "java/lang/Math" ∈ lw_good := gm 49 (by decide +kernel) rfl
theorem G_mmax {E : Ev} {M : MD} {R : Room} {Post : Option Value → Hp → Prop} {pc : Nat} {L : List (Option Value)} {st : List Value} {h : Hp} {ac as : Nat} (pc' : Nat) (hp : pc + 3 = pc') {x y : Int32} {idx : Nat} (hw : Cond.methodLink M.1 idx Lib.Math.max.name ∈ lw_good) (hR : 1 ≤ R.frames ∧ 21 ≤ R.locals) (hs8 : (st.map fun v => v.category).sum ≤ 8) (hd : decode M.2.2.1 pc = .ok (.invokestatic idx, 3)) (k : G E M R Post pc' L (.int (if x < y then y else x) :: st) h ac as) : G E M R Post pc L (.int y :: .int x :: st) h ac as := by
  subst hp
  intro p e s m args below meth c H locs cells slots ls C hH hS hL h1 h2
  have hts := C.2.2.2.2.1
  exact va_mmax C.1 C.2.1 (C.2.2.1.trans hL.1.symm) C.2.2.2.1 (hts _ (List.mem_cons_of_mem _ hw)) (hts _ (List.mem_cons_of_mem _ w_max_s)) (hts _ (List.mem_cons_of_mem _ w_math)) (hts _ (List.mem_cons_of_mem _ w_max_c)) hR.1 (by omega) (by omega) (by omega) hd (k p e s m args below meth c H locs cells slots ls C hH hS hL h1 h2)
theorem G_mmin {E : Ev} {M : MD} {R : Room} {Post : Option Value → Hp → Prop} {pc : Nat} {L : List (Option Value)} {st : List Value} {h : Hp} {ac as : Nat} (pc' : Nat) (hp : pc + 3 = pc') {x y : Int32} {idx : Nat} (hw : Cond.methodLink M.1 idx Lib.Math.min.name ∈ lw_good) (hR : 1 ≤ R.frames ∧ 21 ≤ R.locals) (hs8 : (st.map fun v => v.category).sum ≤ 8) (hd : decode M.2.2.1 pc = .ok (.invokestatic idx, 3)) (k : G E M R Post pc' L (.int (if y < x then y else x) :: st) h ac as) : G E M R Post pc L (.int y :: .int x :: st) h ac as := by
  subst hp
  intro p e s m args below meth c H locs cells slots ls C hH hS hL h1 h2
  have hts := C.2.2.2.2.1
  exact va_mmin C.1 C.2.1 (C.2.2.1.trans hL.1.symm) C.2.2.2.1 (hts _ (List.mem_cons_of_mem _ hw)) (hts _ (List.mem_cons_of_mem _ w_min_s)) (hts _ (List.mem_cons_of_mem _ w_math)) (hts _ (List.mem_cons_of_mem _ w_min_c)) hR.1 (by omega) (by omega) (by omega) hd (k p e s m args below meth c H locs cells slots ls C hH hS hL h1 h2)
end
section
/-! ===== numbers and small searches ===== -/
def oI (o : Option Nat) : Int32 := match o with
  | none => -1
  | some j => nI j
/-- the first place from a on, of n, where f isn't 0 -/
def fOn (f : Nat → Int32) : Nat → Nat → Option Nat
  | 0, _ => none
  | n + 1, a => if f a = 0 then fOn f n (a + 1) else some a
theorem fOn_succ (f : Nat → Int32) (n a : Nat) : fOn f (n + 1) a = if f a = 0 then fOn f n (a + 1) else some a := rfl
theorem fOn_some {f : Nat → Int32} : ∀ {n a j : Nat}, fOn f n a = some j → a ≤ j ∧ j < a + n ∧ ¬ f j = 0 := by
  intro n
  induction n with
  | zero => intro a j h; simp [fOn] at h
  | succ n ih =>
    intro a j h
    unfold fOn at h
    by_cases hf : f a = 0
    · rw [if_pos hf] at h
      obtain ⟨h1, h2, h3⟩ := ih h
      exact ⟨by omega, by omega, h3⟩
    · rw [if_neg hf] at h
      cases h
      exact ⟨Nat.le_refl _, by omega, hf⟩
theorem fOn_none {f : Nat → Int32} : ∀ {n a : Nat}, fOn f n a = none → ∀ j, a ≤ j → j < a + n → f j = 0 := by
  intro n
  induction n with
  | zero => intro a h j h1 h2; omega
  | succ n ih =>
    intro a h j h1 h2
    unfold fOn at h
    by_cases hf : f a = 0
    · rw [if_pos hf] at h
      by_cases hj : j = a
      · subst hj; exact hf
      · exact ih h j (by omega) (by omega)
    · rw [if_neg hf] at h
      cases h
theorem oI_m1 {j : Nat} (h : j < 2 ^ 31) : ¬ oI (some j) = -1 := by
  intro e
  have : (nI j).toInt = (-1 : Int32).toInt := congrArg Int32.toInt e
  rw [nI_toInt h] at this
  have e2 : (-1 : Int32).toInt = -1 := by decide
  omega
theorem inc1 (a : Nat) : nI a + Int32.ofInt 1 = nI (a + 1) := nI_1 a
theorem dec1 (a : Nat) : nI (a + 1) + Int32.ofInt (-1) = nI a := pk_m1 a
theorem ix_of {x : Int32} {n : Nat} (hn : n < 2 ^ 31) (h0 : ¬ x < 0) (h1 : ¬ nI n ≤ x) : ∃ j, j < n ∧ x = nI j := by
  obtain ⟨j, hj, e⟩ := nI_of h0
  refine ⟨j, ?_, e⟩
  subst e
  by_cases q : j < n
  · exact q
  · exact absurd (nI_le (Nat.not_lt.mp q) hj) h1
/-! ===== the class's steps as functions ===== -/
def cN (x : Int32) : Nat := x.toNatClampNeg
theorem cN_nI {n : Nat} (h : n < 2 ^ 31) : cN (nI n) = n := nI_clamp h
def nxt (σ : Sg) (p a : Nat) : Option Nat := fOn (fun j => σ.1 131 (8 * p + j)) (cN (σ.1 326 p) - a) a
def lkAt (σ : Sg) (p : Nat) (k : Int32) : Sg := up (up (up σ 329 p k) 330 p 0) 325 p 3
def lkFF (σ : Sg) (p : Nat) : Sg := match nxt σ p 0 with
  | none => up σ 325 p 10
  | some j => lkAt σ p (nI j)
def lkNx (σ : Sg) (p : Nat) : Sg := match nxt σ p (cN (σ.1 329 p) + 1) with
  | none => up σ 325 p 9
  | some j => lkAt σ p (nI j)
/-- the first entry that p has not withdrawn -/
def fE (σ : Sg) (p : Nat) : Option Nat := (sPb σ p)[cN (σ.1 336 p)]?
def bWd (σ : Sg) (p : Nat) : Sg := up σ 325 p (if (fE σ p).isSome then 11 else 12)
abbrev stl (σ : Sg) (p : Nat) : Prop := σ.1 384 p = 3 ∨ σ.1 384 p = 4
end
section
/-! ===== the class's steps as functions, on ===== -/
def ndb (σ : Sg) (p : Nat) : Sg := if (1 < σ.1 337 p ∨ (σ.1 337 p = 1 ∧ ¬ σ.1 338 p = 0)) ∧ σ.1 339 p = 0 then up (up σ 339 p 1) 456 0 (σ.1 456 0 + 1) else σ
def putO (σ : Sg) (p : Nat) (why : Int32) : Sg := ndb (up (up (up (up σ 384 p 4) 386 p (-1)) 334 p why) 338 p 1) p
def rOut (σ : Sg) (p : Nat) : Sg := if σ.1 384 p = 1 then bWd (putO σ p 3) p else if σ.1 384 p = 3 then bWd σ p else σ
def vs (σ : Sg) (p t n : Nat) : Int32 := if t = p then σ.1 385 p else σ.1 1 n
abbrev tryOk (σ : Sg) (p t n : Nat) : Prop := σ.1 384 t = 1 ∧ σ.1 385 t = vs σ p t n
def tryY (σ : Sg) (p t : Nat) : Sg := up (up (up σ 454 0 (σ.1 454 0 + 1)) 384 t 2) 386 t (nI p)
def tryN (σ : Sg) : Sg := up (up σ 454 0 (σ.1 454 0 + 1)) 455 0 (σ.1 455 0 + 1)
def nBs (σ : Sg) (p t n : Nat) : Sg := if σ.1 384 t = 2 ∧ σ.1 385 t = vs σ p t n then up σ 332 p 1 else σ
def add8 (σ : Sg) (p n g z : Nat) (steps : Int32) : Sg :=
  up (up (up (up (up (up (up (up σ 900 (z * 8) (nI p)) 900 (z * 8 + 1) (σ.1 0 n)) 900 (z * 8 + 2) (σ.1 129 g)) 900 (z * 8 + 3) (if σ.1 128 g = 0 then σ.1 130 g else σ.1 4 n)) 900 (z * 8 + 4) (if σ.1 128 g = 0 then nI p else σ.1 0 n)) 900 (z * 8 + 5) (σ.1 385 p)) 900 (z * 8 + 6) (σ.1 1 n)) 900 (z * 8 + 7) steps
def addP (σ : Sg) (p n g : Nat) (steps : Int32) : Sg := if σ.1 257 0 < 200 then up (add8 σ p n g (cN (σ.1 257 0)) steps) 257 0 (σ.1 257 0 + 1) else up σ 257 0 (σ.1 257 0 + 1)
def pOf (σ : Sg) (p : Nat) : Sg := ndb (up σ 337 p (σ.1 337 p + 1)) p
def recP (σ : Sg) (p q n g : Nat) : Sg := pOf (pOf (addP σ p n g (σ.1 452 0)) p) q
def loT (p q : Nat) : Nat := if p < q then p else q
def hiT (p q : Nat) : Nat := if p < q then q else p
def gv0 (σ : Sg) (t : Nat) : Sg := up (up σ 384 t 1) 386 t (-1)
def gvB (σ : Sg) (p q : Nat) : Sg := if σ.1 333 p = 0 then up (gv0 σ (loT p q)) 325 p 3 else bWd (gv0 σ (loT p q)) p
def tell (σ : Sg) (p a : Nat) (x c v : Int32) : Sg := up (up (up (up (up (up (up σ 384 a 3) 386 a (-1)) 192 a 1) 193 a x) 194 a c) 195 a v) 196 a (σ.1 385 a)
def tlO (σ : Sg) (p q g : Nat) : Sg := up (tell σ p q (nI p) (σ.1 129 g) (if σ.1 128 g = 0 then σ.1 130 g else 0)) 325 p 8
def tkO (σ : Sg) (p n g : Nat) : Sg := bWd (tell σ p p (σ.1 0 n) (σ.1 129 g) (if σ.1 128 g = 1 then σ.1 4 n else 0)) p
/-! what ndb, pOf and addP leave as it was -/
theorem ndb_2 (σ : Sg) (p : Nat) : (ndb σ p).2 = σ.2 := by unfold ndb; split <;> rfl
theorem ndb_f (σ : Sg) (p f i : Nat) (h1 : f ≠ 339) (h2 : f ≠ 456) : (ndb σ p).1 f i = σ.1 f i := by
  unfold ndb
  split
  · simp [up, h1, h2]
  · rfl
theorem putO_2 (σ : Sg) (p : Nat) (w : Int32) : (putO σ p w).2 = σ.2 := ndb_2 _ p
theorem putO_f (σ : Sg) (p f i : Nat) (w : Int32) (h1 : f ≠ 339) (h2 : f ≠ 456) (h3 : f ≠ 384) (h4 : f ≠ 386) (h5 : f ≠ 334) (h6 : f ≠ 338) : (putO σ p w).1 f i = σ.1 f i := by
  unfold putO
  rw [ndb_f _ _ _ _ h1 h2]
  simp [up, h3, h4, h5, h6]
theorem nBs_2 (σ : Sg) (p t n : Nat) : (nBs σ p t n).2 = σ.2 := by unfold nBs; split <;> rfl
theorem nBs_f (σ : Sg) (p t n f i : Nat) (h1 : f ≠ 332) : (nBs σ p t n).1 f i = σ.1 f i := by
  unfold nBs
  split
  · simp [up, h1]
  · rfl
theorem add8_2 (σ : Sg) (p n g z : Nat) (s : Int32) : (add8 σ p n g z s).2 = σ.2 := rfl
theorem add8_f (σ : Sg) (p n g z f i : Nat) (s : Int32) (h : f ≠ 900) : (add8 σ p n g z s).1 f i = σ.1 f i := by simp [add8, up, h]
theorem addP_2 (σ : Sg) (p n g : Nat) (s : Int32) : (addP σ p n g s).2 = σ.2 := by unfold addP; split <;> rfl
theorem addP_f (σ : Sg) (p n g f i : Nat) (s : Int32) (h : f ≠ 900) (h2 : f ≠ 257) : (addP σ p n g s).1 f i = σ.1 f i := by
  unfold addP
  split
  · rw [up_fne _ _ _ _ h2, add8_f _ _ _ _ _ _ _ _ h]
  · rw [up_fne _ _ _ _ h2]
theorem pOf_2 (σ : Sg) (p : Nat) : (pOf σ p).2 = σ.2 := ndb_2 _ p
theorem pOf_f (σ : Sg) (p f i : Nat) (h1 : f ≠ 339) (h2 : f ≠ 456) (h3 : f ≠ 337) : (pOf σ p).1 f i = σ.1 f i := by
  unfold pOf
  rw [ndb_f _ _ _ _ h1 h2, up_fne _ _ _ _ h3]
theorem recP_2 (σ : Sg) (p q n g : Nat) : (recP σ p q n g).2 = σ.2 := by unfold recP; rw [pOf_2, pOf_2, addP_2]
end
section
section LISTS
variable {E : Ev} {m : Nat} {σ : Sg} {τ : Tu} {h : Hp}
theorem aLA_inj {c d : Nat} (h : aLA E m c = aLA E m d) : c = d := by simp only [aLA] at h; omega
theorem aLs_inj {c d : Nat} (h : aLs E m c = aLs E m d) : c = d := by simp only [aLs] at h; omega
/-- the list c is another one: its array holds it, and its size is written -/
theorem RR.relist (hR : RR E m σ τ h) {c : Nat} (hc : c < 8) {l : List Nat} (hl : l.length ≤ 128) {A1 : Nat → Nat → Option Nat} (hA : ∀ b, b ≠ aLA E m c → A1 b = h.2.2.2.1 b) (hj : ∀ j, j < l.length → A1 (aLA E m c) j = (l[j]?).map (aE E m)) :
    RR E m (uL σ c l) τ (sI (h.1, h.2.1, h.2.2.1, A1, h.2.2.2.2) 65 (aLs E m c) (nI l.length)) := by
  obtain ⟨hL, ⟨s1, s2, s3, s4, s5, s6, s7⟩, ⟨c1, c2, c3, c4, c5, c6, c7, c8⟩, ⟨m1, m2⟩⟩ := hR
  have key : ∀ f a, f ≠ 65 → (if f = 65 ∧ a = aLs E m c then nI l.length else h.1 f a) = h.1 f a := fun f a hf => if_neg (fun q => hf q.1)
  refine ⟨hL, ⟨s1, fun p hp => ?_, s3, fun p j hp hj8 => ?_, fun d hd => ⟨?_, (s5 d hd).2⟩, s6, s7⟩, ⟨c1, fun ci k i hv hk => ?_, c3, fun p hp => ?_, fun n h1 h2 => ?_, c6, fun d hd => ?_, fun p hp => ⟨(c8 p hp).1, ?_, fun j hjl => ?_⟩⟩, ⟨fun k hk => ?_, m2⟩⟩
  · show A1 (aPA E) p = _
    rw [hA _ (by simp only [aPA, aLA]; omega)]; exact s2 p hp
  · show A1 (aGA E p) j = _
    rw [hA _ (by simp only [aGA, aLA]; omega)]; exact s4 p j hp hj8
  · show A1 (aLL E m) d = _
    rw [hA _ (by simp only [aLL, aLA]; omega)]; exact (s5 d hd).1
  · obtain ⟨-, -, -, -, -, -, o7, -, -⟩ := okf_lt hk
    show (if 64 * ci + k = 65 ∧ _ then _ else h.1 (64 * ci + k) (ad E m ci i)) = _
    rw [key _ _ o7]; exact c2 ci k i hv hk
  · exact c4 p hp
  · exact c5 n h1 h2
  · by_cases hdc : d = c
    · subst hdc
      show (if d = d then l else σ.2.2.1 d).length ≤ 128 ∧ (if 65 = 65 ∧ aLs E m d = aLs E m d then nI l.length else h.1 65 (aLs E m d)) = nI (if d = d then l else σ.2.2.1 d).length ∧ ∀ j, j < (if d = d then l else σ.2.2.1 d).length → A1 (aLA E m d) j = ((if d = d then l else σ.2.2.1 d)[j]?).map (aE E m)
      rw [if_pos rfl, if_pos ⟨rfl, rfl⟩]
      exact ⟨hl, rfl, hj⟩
    · show (if d = c then l else σ.2.2.1 d).length ≤ 128 ∧ (if 65 = 65 ∧ aLs E m d = aLs E m c then nI l.length else h.1 65 (aLs E m d)) = nI (if d = c then l else σ.2.2.1 d).length ∧ ∀ j, j < (if d = c then l else σ.2.2.1 d).length → A1 (aLA E m d) j = ((if d = c then l else σ.2.2.1 d)[j]?).map (aE E m)
      rw [if_neg hdc, if_neg (fun q => hdc (aLs_inj q.2)), hA _ (fun q => hdc (aLA_inj q))]
      exact c7 d hd
  · exact (c8 p hp).2.1
  · show A1 (aOA E p) j = _
    rw [hA _ (by simp only [aOA, aLA]; omega)]; exact (c8 p hp).2.2 j hjl
  · show (if 512 + k = 65 ∧ _ then _ else h.1 (512 + k) (aM E m)) = _
    rw [key _ _ (by omega)]; exact m1 k hk
theorem sI_id {h : Hp} {f a : Nat} {v : Int32} (hv : h.1 f a = v) : sI h f a v = h := by
  have : (fun g b => if g = f ∧ b = a then v else h.1 g b) = h.1 := by
    funext g b
    by_cases q : g = f ∧ b = a
    · rw [if_pos q, q.1, q.2, hv]
    · rw [if_neg q]
  unfold sI
  rw [this]
/-- a place of the list c is written -/
theorem RR.setL (hR : RR E m σ τ h) {c k n : Nat} (hc : c < 8) (hk : k < (sLs σ c).length) : RR E m (uL σ c ((sLs σ c).set k n)) τ (sQ h (aLA E m c) k (some (aE E m n))) := by
  have c7 := hR.2.2.1.2.2.2.2.2.2.1 c hc
  have h1 := hR.relist (l := (sLs σ c).set k n) (A1 := fun b j => if b = aLA E m c ∧ j = k then some (aE E m n) else h.2.2.2.1 b j) hc (by rw [List.length_set]; exact c7.1) (fun b hb => by funext j; rw [if_neg (fun q => hb q.1)]) (fun j hj => by
    rw [List.length_set] at hj
    by_cases hjk : j = k
    · subst hjk
      rw [if_pos ⟨rfl, rfl⟩, List.getElem?_set_self hj]; rfl
    · rw [if_neg (fun q => hjk q.2), List.getElem?_set_ne (Ne.symm hjk)]
      exact c7.2.2 j hj)
  rw [sI_id (by rw [List.length_set]; exact c7.2.1)] at h1
  exact h1
/-- behind an aastore at the list's end: with the size written it is one longer -/
theorem RR.appL (hR : RR E m σ τ h) {c n : Nat} (hc : c < 8) (hl : (sLs σ c).length < 128) : RR E m (uL σ c (sLs σ c ++ [n])) τ (sI (sQ h (aLA E m c) (sLs σ c).length (some (aE E m n))) 65 (aLs E m c) (nI ((sLs σ c).length + 1))) := by
  have c7 := hR.2.2.1.2.2.2.2.2.2.1 c hc
  have h1 := hR.relist (l := sLs σ c ++ [n]) (A1 := fun b j => if b = aLA E m c ∧ j = (sLs σ c).length then some (aE E m n) else h.2.2.2.1 b j) hc (by simp; omega) (fun b hb => by funext j; rw [if_neg (fun q => hb q.1)]) (fun j hj => by
    rw [List.length_append] at hj
    by_cases hjk : j = (sLs σ c).length
    · subst hjk
      rw [if_pos ⟨rfl, rfl⟩, List.getElem?_append_right (Nat.le_refl _)]
      simp
    · have hj2 : j < (sLs σ c).length := by simp at hj; omega
      rw [if_neg (fun q => hjk q.2), List.getElem?_append_left hj2]
      exact c7.2.2 j hj2)
  rw [List.length_append] at h1
  exact h1
/-- the same for what a process published -/
theorem RR.keep (hR : RR E m σ τ h) {p n : Nat} (hp : p < m) (hl : (sPb σ p).length < 8) : RR E m (uP σ p (sPb σ p ++ [n])) τ (sI (sQ h (aOA E p) (sPb σ p).length (some (aE E m n))) 335 (aP E p) (nI ((sPb σ p).length + 1))) := by
  obtain ⟨hL, ⟨s1, s2, s3, s4, s5, s6, s7⟩, ⟨c1, c2, c3, c4, c5, c6, c7, c8⟩, ⟨m1, m2⟩⟩ := hR
  have key : ∀ f a, f ≠ 335 → (if f = 335 ∧ a = aP E p then nI ((sPb σ p).length + 1) else h.1 f a) = h.1 f a := fun f a hf => if_neg (fun q => hf q.1)
  have kq : ∀ b j, b ≠ aOA E p → (if b = aOA E p ∧ j = (sPb σ p).length then some (aE E m n) else h.2.2.2.1 b j) = h.2.2.2.1 b j := fun b j hb => if_neg (fun q => hb q.1)
  refine ⟨hL, ⟨s1, fun q hq => ?_, s3, fun q j hq hj8 => ?_, fun d hd => ⟨?_, (s5 d hd).2⟩, s6, s7⟩, ⟨c1, fun ci k i hv hk => ?_, c3, fun q hq => ?_, fun n' h1 h2 => ?_, c6, fun d hd => ⟨(c7 d hd).1, ?_, fun j hj => ?_⟩, fun q hq => ?_⟩, ⟨fun k hk => ?_, m2⟩⟩
  · show (if aPA E = aOA E p ∧ _ then _ else h.2.2.2.1 (aPA E) q) = _
    rw [kq _ _ (by simp only [aPA, aOA]; omega)]; exact s2 q hq
  · show (if aGA E q = aOA E p ∧ _ then _ else h.2.2.2.1 (aGA E q) j) = _
    rw [kq _ _ (by simp only [aGA, aOA]; omega)]; exact s4 q j hq hj8
  · show (if aLL E m = aOA E p ∧ _ then _ else h.2.2.2.1 (aLL E m) d) = _
    rw [kq _ _ (by simp only [aLL, aOA]; omega)]; exact (s5 d hd).1
  · obtain ⟨-, -, -, -, -, -, -, o8, -⟩ := okf_lt hk
    show (if 64 * ci + k = 335 ∧ _ then _ else h.1 (64 * ci + k) (ad E m ci i)) = _
    rw [key _ _ o8]; exact c2 ci k i hv hk
  · exact c4 q hq
  · exact c5 n' h1 h2
  · exact (c7 d hd).2.1
  · show (if aLA E m d = aOA E p ∧ _ then _ else h.2.2.2.1 (aLA E m d) j) = _
    rw [kq _ _ (by simp only [aLA, aOA]; omega)]; exact (c7 d hd).2.2 j hj
  · by_cases hqp : q = p
    · subst hqp
      show (if q = q then sPb σ q ++ [n] else sPb σ q).length ≤ 8 ∧ (if 335 = 335 ∧ aP E q = aP E q then nI ((sPb σ q).length + 1) else h.1 335 (aP E q)) = nI (if q = q then sPb σ q ++ [n] else sPb σ q).length ∧ ∀ j, j < (if q = q then sPb σ q ++ [n] else sPb σ q).length → (if aOA E q = aOA E q ∧ j = (sPb σ q).length then some (aE E m n) else h.2.2.2.1 (aOA E q) j) = ((if q = q then sPb σ q ++ [n] else sPb σ q)[j]?).map (aE E m)
      rw [if_pos rfl, if_pos ⟨rfl, rfl⟩, List.length_append]
      refine ⟨by simp; omega, rfl, fun j hj => ?_⟩
      by_cases hjk : j = (sPb σ q).length
      · subst hjk
        rw [if_pos ⟨rfl, rfl⟩, List.getElem?_append_right (Nat.le_refl _)]
        simp
      · have hj2 : j < (sPb σ q).length := by simp at hj; omega
        rw [if_neg (fun z => hjk z.2), List.getElem?_append_left hj2]
        exact (c8 q hq).2.2 j hj2
    · show (if q = p then sPb σ p ++ [n] else sPb σ q).length ≤ 8 ∧ (if 335 = 335 ∧ aP E q = aP E p then _ else h.1 335 (aP E q)) = nI (if q = p then sPb σ p ++ [n] else sPb σ q).length ∧ ∀ j, j < (if q = p then sPb σ p ++ [n] else sPb σ q).length → (if aOA E q = aOA E p ∧ j = (sPb σ p).length then some (aE E m n) else h.2.2.2.1 (aOA E q) j) = ((if q = p then sPb σ p ++ [n] else sPb σ q)[j]?).map (aE E m)
      rw [if_neg hqp, if_neg (fun z => hqp (aP_inj z.2))]
      refine ⟨(c8 q hq).1, (c8 q hq).2.1, fun j hj => ?_⟩
      rw [kq _ _ (by simp only [aOA]; omega)]
      exact (c8 q hq).2.2 j hj
  · show (if 512 + k = 335 ∧ _ then _ else h.1 (512 + k) (aM E m)) = _
    rw [key _ _ (by omega)]; exact m1 k hk
/-- a process has published nothing yet -/
theorem RR.pub0 (hR : RR E m σ τ h) {p : Nat} (hp : p < m) : RR E m (uP σ p []) τ (sI h 335 (aP E p) 0) := by
  obtain ⟨hL, hS, ⟨c1, c2, c3, c4, c5, c6, c7, c8⟩, ⟨m1, m2⟩⟩ := hR
  have key : ∀ f a, f ≠ 335 → (if f = 335 ∧ a = aP E p then (0 : Int32) else h.1 f a) = h.1 f a := fun f a hf => if_neg (fun q => hf q.1)
  refine ⟨hL, hS, ⟨c1, fun ci k i hv hk => ?_, c3, fun q hq => ?_, fun n' h1 h2 => ?_, c6, fun d hd => ⟨(c7 d hd).1, ?_, (c7 d hd).2.2⟩, fun q hq => ?_⟩, ⟨fun k hk => ?_, m2⟩⟩
  · obtain ⟨-, -, -, -, -, -, -, o8, -⟩ := okf_lt hk
    show (if 64 * ci + k = 335 ∧ _ then _ else h.1 (64 * ci + k) (ad E m ci i)) = _
    rw [key _ _ o8]; exact c2 ci k i hv hk
  · exact c4 q hq
  · exact c5 n' h1 h2
  · exact (c7 d hd).2.1
  · by_cases hqp : q = p
    · subst hqp
      show (if q = q then [] else sPb σ q).length ≤ 8 ∧ (if 335 = 335 ∧ aP E q = aP E q then (0 : Int32) else h.1 335 (aP E q)) = nI (if q = q then [] else sPb σ q).length ∧ ∀ j, j < (if q = q then [] else sPb σ q).length → _
      rw [if_pos rfl, if_pos ⟨rfl, rfl⟩]
      exact ⟨by simp, rfl, fun j hj => by simp at hj⟩
    · show (if q = p then [] else sPb σ q).length ≤ 8 ∧ (if 335 = 335 ∧ aP E q = aP E p then (0 : Int32) else h.1 335 (aP E q)) = nI (if q = p then [] else sPb σ q).length ∧ ∀ j, j < (if q = p then [] else sPb σ q).length → h.2.2.2.1 (aOA E q) j = ((if q = p then [] else sPb σ q)[j]?).map (aE E m)
      rw [if_neg hqp, if_neg (fun z => hqp (aP_inj z.2))]
      exact c8 q hq
  · show (if 512 + k = 335 ∧ _ then _ else h.1 (512 + k) (aM E m)) = _
    rw [key _ _ (by omega)]; exact m1 k hk
end LISTS
end
section
section NEWE
variable {E : Ev} {m : Nat} {σ : Sg} {τ : Tu} {h : Hp}
/-- an entry more: its ints are v 0 .. v 4 -/
def eNw (σ : Sg) (v : Nat → Int32) : Sg := (fun g j => if g < 5 ∧ j = sNp σ + 1 then v g else σ.1 g j, σ.2.1, σ.2.2.1, σ.2.2.2.1, sNp σ + 1)
theorem RR.grow (hR : RR E m σ τ h) {h' : Hp} {v : Nat → Int32} (e1 : ∀ f b, b ≠ hn h → h'.1 f b = h.1 f b) (e2 : ∀ f b, b ≠ hn h → h'.2.1 f b = h.2.1 f b) (e3 : ∀ b, b ≠ hn h → h'.2.2.1 b = h.2.2.1 b) (e4 : ∀ b, b ≠ hn h → h'.2.2.2.1 b = h.2.2.2.1 b) (e5 : hn h' = hn h + 1) (e6 : ∀ f, f < 5 → h'.1 f (hn h) = v f) (e7 : h'.1 5 (hn h) = nI (sNp σ + 1)) : RR E m (eNw σ v) τ h' := by
  have hn0 := hR.2.2.1.1
  have lt := fun {ci i : Nat} (hv : vd m (sNp σ) ci i) => (ad_in hR.2.2.1 hv).2
  obtain ⟨hL, ⟨s1, s2, s3, s4, s5, s6, s7⟩, ⟨c1, c2, c3, c4, c5, c6, c7, c8⟩, ⟨m1, m2⟩⟩ := hR
  have nX : aX E ≠ hn h := by rw [hn0]; simp only [aX, aE]; omega
  have nPA : aPA E ≠ hn h := by rw [hn0]; simp only [aPA, aE]; omega
  have nLL : aLL E m ≠ hn h := by rw [hn0]; simp only [aLL, aE]; omega
  have nPL : aPL E m ≠ hn h := by rw [hn0]; simp only [aPL, aE]; omega
  have nPP : aPP E m ≠ hn h := by rw [hn0]; simp only [aPP, aE]; omega
  have nM : aM E m ≠ hn h := by rw [hn0]; simp only [aM, aE]; omega
  have nP : ∀ p, p < m → aP E p ≠ hn h := fun p hp => by rw [hn0]; simp only [aP, aE]; omega
  have nGA : ∀ p, p < m → aGA E p ≠ hn h := fun p hp => by rw [hn0]; simp only [aGA, aE]; omega
  have nOA : ∀ p, p < m → aOA E p ≠ hn h := fun p hp => by rw [hn0]; simp only [aOA, aE]; omega
  have nLs : ∀ c, c < 8 → aLs E m c ≠ hn h := fun c hc => by rw [hn0]; simp only [aLs, aE]; omega
  have nLA : ∀ c, c < 8 → aLA E m c ≠ hn h := fun c hc => by rw [hn0]; simp only [aLA, aE]; omega
  have nMA : ∀ k, isMA k → aMA E m k ≠ hn h := fun k hk => by
    rw [hn0]; unfold isMA at hk; simp only [aMA, aM, aE]; split <;> omega
  refine ⟨hL, ⟨?_, fun p hp => ?_, fun p hp => ?_, fun p j hp hj => ?_, fun c hc => ?_, ?_, fun k hk => ?_⟩, ⟨?_, fun ci k i hv hk => ?_, fun i hi => ?_, fun p hp => ?_, fun n h1 h2 => ?_, fun p hp => ?_, fun c hc => ?_, fun p hp => ?_⟩, ⟨fun k hk => ?_, fun k i hk hi => ?_⟩⟩
  · rw [e2 _ _ nX, e2 _ _ nX, e2 _ _ nX]; exact s1
  · rw [e4 _ nPA]; exact s2 p hp
  · rw [e2 _ _ (nP p hp), e2 _ _ (nP p hp), e2 _ _ (nP p hp), e2 _ _ (nP p hp)]; exact s3 p hp
  · rw [e4 _ (nGA p hp)]; exact s4 p j hp hj
  · rw [e4 _ nLL, e2 _ _ (nLs c hc)]; exact s5 c hc
  · rw [e2 _ _ nPL]; exact s6
  · rw [e2 _ _ nM]; exact s7 k hk
  · rw [e5, hn0]; simp only [aE, eNw, sNp]; omega
  · obtain ⟨o1, o2, -, o4, -⟩ := okf_lt hk
    show h'.1 (64 * ci + k) (ad E m ci i) = if 64 * ci + k < 5 ∧ i = sNp σ + 1 then v (64 * ci + k) else σ.1 (64 * ci + k) i
    by_cases h0 : ci = 0 ∧ i = sNp σ + 1
    · obtain ⟨rfl, rfl⟩ := h0
      have hk5 : k < 5 := by simpa [okf] using hk
      rw [if_pos ⟨by omega, rfl⟩, show ad E m 0 (sNp σ + 1) = hn h from hn0.symm]
      exact e6 _ (by omega)
    · have hv' : vd m (sNp σ) ci i := by
        rcases ci with _ | _ | _ | _ | _ | _ | _ | _ | _ | ci
        · have hv : 1 ≤ i ∧ i ≤ sNp σ + 1 := hv
          exact ⟨hv.1, by omega⟩
        all_goals exact hv
      rw [if_neg (by
        rintro ⟨q1, q2⟩
        rcases ci with _ | ci
        · exact h0 ⟨rfl, q2⟩
        · omega), e1 _ _ (Nat.ne_of_lt (lt hv'))]
      exact c2 ci k i hv' hk
  · rw [e3 _ nPP]; exact c3 i hi
  · rw [e1 _ _ (nP p hp)]; exact c4 p hp
  · by_cases hnn : n = sNp σ + 1
    · subst hnn
      rw [show aE E m (sNp σ + 1) = hn h from hn0.symm]; exact e7
    · have h2' : n ≤ sNp σ := by
        have : n ≤ sNp σ + 1 := h2
        omega
      rw [e1 _ _ (by rw [hn0]; simp only [aE]; omega)]; exact c5 n h1 h2'
  · rw [e2 _ _ (nP p hp)]; exact c6 p hp
  · rw [e1 _ _ (nLs c hc), e4 _ (nLA c hc)]; exact c7 c hc
  · rw [e1 _ _ (nP p hp), e4 _ (nOA p hp)]; exact c8 p hp
  · rw [e1 _ _ nM]; exact m1 k hk
  · rw [e3 _ (nMA k hk)]; exact m2 k i hk hi
/-- Entry(..) at a new cell: what the six fields are behind it -/
def iE (h : Hp) (a g : Nat) (x y z : Int32) : Hp := sI (sI (sI (sI (sI (sI h 0 a x) 1 a y) 2 a (h.1 128 g)) 3 a (h.1 129 g)) 4 a (h.1 130 g)) 5 a z
set_option maxHeartbeats 4000000 in
set_option maxRecDepth 100000 in
theorem c_X0_init {a g : Nat} (ho : Ob E h 0 a) (hg : Ob E h 2 g) (x y z : Int32) : Cn E mX0_init (rk 1 0 0) h [.ref a, .int x, .int y, .ref g, .int z] (fun v h' => v = none ∧ h' = iE h a g x y z) := by
  refine Cn_of (by decide) rfl (by simp [Value.category]) (Nat.le_of_ble_eq_true rfl) ?_
  refine G_aload_n 1 rfl rfl dX0_init_0 ?_
  refine G_objInit 4 rfl ml_X0_3 w_oi1 w_oi2 (Nat.le_of_ble_eq_true rfl) ⟨by decide, by decide⟩ dX0_init_1 ?_
  refine G_aload_n 5 rfl rfl dX0_init_4 ?_
  refine G_iload_n 6 rfl rfl dX0_init_5 ?_
  refine G_putFI 9 rfl (ci := 0) (k := 0) fl_X0_9 ⟨rfl, rfl, rfl⟩ ⟨rfl, rfl⟩ ho dX0_init_6 ?_
  refine G_aload_n 10 rfl rfl dX0_init_9 ?_
  refine G_iload_n 11 rfl rfl dX0_init_10 ?_
  refine G_putFI 14 rfl (ci := 0) (k := 1) fl_X0_15 ⟨rfl, rfl, rfl⟩ ⟨rfl, rfl⟩ ho dX0_init_11 ?_
  refine G_aload_n 15 rfl rfl dX0_init_14 ?_
  refine G_aload_n 16 rfl rfl dX0_init_15 ?_
  refine G_getI 19 rfl (ci := 2) (k := 0) fl_X0_18 rfl hg dX0_init_16 ?_
  refine G_putFI 22 rfl (ci := 0) (k := 2) fl_X0_23 ⟨rfl, rfl, rfl⟩ ⟨rfl, rfl⟩ ho dX0_init_19 ?_
  refine G_aload_n 23 rfl rfl dX0_init_22 ?_
  refine G_aload_n 24 rfl rfl dX0_init_23 ?_
  refine G_getI 27 rfl (ci := 2) (k := 1) fl_X0_24 rfl hg dX0_init_24 ?_
  refine G_putFI 30 rfl (ci := 0) (k := 3) fl_X0_27 ⟨rfl, rfl, rfl⟩ ⟨rfl, rfl⟩ ho dX0_init_27 ?_
  refine G_aload_n 31 rfl rfl dX0_init_30 ?_
  refine G_aload_n 32 rfl rfl dX0_init_31 ?_
  refine G_getI 35 rfl (ci := 2) (k := 2) fl_X0_28 rfl hg dX0_init_32 ?_
  refine G_putFI 38 rfl (ci := 0) (k := 4) fl_X0_31 ⟨rfl, rfl, rfl⟩ ⟨rfl, rfl⟩ ho dX0_init_35 ?_
  refine G_aload_n 39 rfl rfl dX0_init_38 ?_
  refine G_iload 41 rfl rfl dX0_init_39 ?_
  refine G_putFI 44 rfl (ci := 0) (k := 5) fl_X0_32 ⟨rfl, rfl, rfl⟩ ⟨rfl, rfl⟩ ho dX0_init_41 ?_
  refine G_ret rfl ?_ dX0_init_44
  exact ⟨rfl, rfl⟩
theorem sN_1 {f b : Nat} (hb : b ≠ hn h) : (sN h).1 f b = h.1 f b := by simp [sN, hb]
theorem sN_2 {f b : Nat} (hb : b ≠ hn h) : (sN h).2.1 f b = h.2.1 f b := by simp [sN, hb]
theorem RR.newE (hR : RR E m σ τ h) {g : Nat} (hg : g < 8 * m) (x y : Int32) : RR E m (eNw σ (fun k => if k = 0 then x else if k = 1 then y else if k = 2 then σ.1 128 g else if k = 3 then σ.1 129 g else σ.1 130 g)) τ (iE (sN h) (hn h) (aG E g) x y (nI (sNp σ + 1))) := by
  have hlt := (ad_in hR.2.2.1 (ci := 2) (i := g) hg).2
  have hne : aG E g ≠ hn h := Nat.ne_of_lt hlt
  have g0 : h.1 128 (aG E g) = σ.1 128 g := hR.2.2.1.2.1 2 0 g hg rfl
  have g1 : h.1 129 (aG E g) = σ.1 129 g := hR.2.2.1.2.1 2 1 g hg rfl
  have g2 : h.1 130 (aG E g) = σ.1 130 g := hR.2.2.1.2.1 2 2 g hg rfl
  refine hR.grow (fun f b hb => ?_) (fun f b hb => ?_) (fun b hb => ?_) (fun b hb => ?_) rfl (fun f hf => ?_) ?_
  · simp [iE, sI, sN, hb]
  · simp [iE, sI, sN, hb]
  · funext j; simp [iE, sI, sN, hb]
  · funext j; simp [iE, sI, sN, hb]
  · rcases f with _ | _ | _ | _ | _ | f
    · simp [iE, sI]
    · simp [iE, sI]
    · simp [iE, sI, sN, hne, g0]
    · simp [iE, sI, sN, hne, g1]
    · simp [iE, sI, sN, hne, g2]
    · omega
  · simp [iE, sI]
end NEWE
end
section
set_option maxHeartbeats 4000000 in
set_option maxRecDepth 100000 in
theorem c_X6_become {E : Ev} {m : Nat} {σ : Sg} {τ : Tu} {h : Hp} (hR : RR E m σ τ h) {p : Nat} (hp : p < m) (k : Int32) : Cn E mX6_become (rk 0 0 0) h [.ref (aW E p), .int k] (fun v h' => v = none ∧ RR E m (up (up σ 384 p k) 386 p (-1)) τ h') := by
  refine Cn_of (by decide) rfl (by simp [Value.category]) (Nat.le_of_ble_eq_true rfl) ?_
  refine G_aload_n 1 rfl rfl dX6_become_0 ?_
  refine G_iload_n 2 rfl rfl dX6_become_1 ?_
  refine G_pi 5 rfl hR 6 0 p 384 fl_X6_9 hp rfl ⟨rfl, rfl⟩ rfl rfl dX6_become_2 (fun h hR => ?_)
  refine G_aload_n 6 rfl rfl dX6_become_5 ?_
  refine G_iconst 7 rfl (-1) (by decide) dX6_become_6 ?_
  refine G_pi 10 rfl hR 6 2 p 386 fl_X6_15 hp rfl ⟨rfl, rfl⟩ rfl rfl dX6_become_7 (fun h hR => ?_)
  refine G_ret rfl ?_ dX6_become_10
  exact ⟨rfl, hR⟩

set_option maxHeartbeats 4000000 in
set_option maxRecDepth 100000 in
theorem c_X6_claimFor {E : Ev} {m : Nat} {σ : Sg} {τ : Tu} {h : Hp} (hR : RR E m σ τ h) {p : Nat} (hp : p < m) (k : Int32) : Cn E mX6_claimFor (rk 0 0 0) h [.ref (aW E p), .int k] (fun v h' => v = none ∧ RR E m (up (up σ 384 p 2) 386 p k) τ h') := by
  refine Cn_of (by decide) rfl (by simp [Value.category]) (Nat.le_of_ble_eq_true rfl) ?_
  refine G_aload_n 1 rfl rfl dX6_claimFor_0 ?_
  refine G_iconst 2 rfl (2) (by decide) dX6_claimFor_1 ?_
  refine G_pi 5 rfl hR 6 0 p 384 fl_X6_9 hp rfl ⟨rfl, rfl⟩ rfl rfl dX6_claimFor_2 (fun h hR => ?_)
  refine G_aload_n 6 rfl rfl dX6_claimFor_5 ?_
  refine G_iload_n 7 rfl rfl dX6_claimFor_6 ?_
  refine G_pi 10 rfl hR 6 2 p 386 fl_X6_15 hp rfl ⟨rfl, rfl⟩ rfl rfl dX6_claimFor_7 (fun h hR => ?_)
  refine G_ret rfl ?_ dX6_claimFor_10
  exact ⟨rfl, hR⟩

set_option maxHeartbeats 4000000 in
set_option maxRecDepth 100000 in
theorem c_X6_isAt {E : Ev} {m : Nat} {σ : Sg} {τ : Tu} {h : Hp} (hR : RR E m σ τ h) {p : Nat} (hp : p < m) (k n : Int32) : Cn E mX6_isAt (rk 0 0 0) h [.ref (aW E p), .int k, .int n] (fun v h' => ((σ.1 384 p = k ∧ σ.1 385 p = n) ∧ v = some (.int 1) ∨ ¬ (σ.1 384 p = k ∧ σ.1 385 p = n) ∧ v = some (.int 0)) ∧ h' = h) := by
  refine Cn_of (by decide) rfl (by simp [Value.category]) (Nat.le_of_ble_eq_true rfl) ?_
  refine G_aload_n 1 rfl rfl dX6_isAt_0 ?_
  refine G_gi 4 rfl hR 6 0 p 384 (σ.1 384 p) fl_X6_9 hp rfl rfl rfl rfl dX6_isAt_1 ?_
  refine G_iload_n 5 rfl rfl dX6_isAt_4 ?_
  refine G_icmp_ne 20 8 rfl (by decide) dX6_isAt_5 (fun c5 => ?_) (fun c5 => ?_)
  · skip
    refine G_iconst 21 rfl (0) (by decide) dX6_isAt_20 ?_
    refine G_iret (ty := .boolean) rfl (by decide) ?_ dX6_isAt_21
    exact ⟨Or.inr ⟨by first | omega | simp_all | (simp_all; omega), rfl⟩, rfl⟩
  · skip
    refine G_aload_n 9 rfl rfl dX6_isAt_8 ?_
    refine G_gi 12 rfl hR 6 1 p 385 (σ.1 385 p) fl_X6_18 hp rfl rfl rfl rfl dX6_isAt_9 ?_
    refine G_iload_n 13 rfl rfl dX6_isAt_12 ?_
    refine G_icmp_ne 20 16 rfl (by decide) dX6_isAt_13 (fun c13 => ?_) (fun c13 => ?_)
    · skip
      refine G_iconst 21 rfl (0) (by decide) dX6_isAt_20 ?_
      refine G_iret (ty := .boolean) rfl (by decide) ?_ dX6_isAt_21
      exact ⟨Or.inr ⟨by first | omega | simp_all | (simp_all; omega), rfl⟩, rfl⟩
    · skip
      refine G_iconst 17 rfl (1) (by decide) dX6_isAt_16 ?_
      refine G_goto 21 (by decide) dX6_isAt_17 ?_
      refine G_iret (ty := .boolean) rfl (by decide) ?_ dX6_isAt_21
      exact ⟨Or.inl ⟨by first | omega | simp_all | (simp_all; omega), rfl⟩, rfl⟩

set_option maxHeartbeats 4000000 in
set_option maxRecDepth 100000 in
theorem c_X6_isSettled {E : Ev} {m : Nat} {σ : Sg} {τ : Tu} {h : Hp} (hR : RR E m σ τ h) {p : Nat} (hp : p < m) : Cn E mX6_isSettled (rk 0 0 0) h [.ref (aW E p)] (fun v h' => ((σ.1 384 p = 3 ∨ σ.1 384 p = 4) ∧ v = some (.int 1) ∨ ¬ (σ.1 384 p = 3 ∨ σ.1 384 p = 4) ∧ v = some (.int 0)) ∧ h' = h) := by
  refine Cn_of (by decide) rfl (by simp [Value.category]) (Nat.le_of_ble_eq_true rfl) ?_
  refine G_aload_n 1 rfl rfl dX6_isSettled_0 ?_
  refine G_gi 4 rfl hR 6 0 p 384 (σ.1 384 p) fl_X6_9 hp rfl rfl rfl rfl dX6_isSettled_1 ?_
  refine G_iconst 5 rfl (3) (by decide) dX6_isSettled_4 ?_
  refine G_icmp_eq 16 8 rfl (by decide) dX6_isSettled_5 (fun c5 => ?_) (fun c5 => ?_)
  · skip
    refine G_iconst 17 rfl (1) (by decide) dX6_isSettled_16 ?_
    refine G_goto 21 (by decide) dX6_isSettled_17 ?_
    refine G_iret (ty := .boolean) rfl (by decide) ?_ dX6_isSettled_21
    exact ⟨Or.inl ⟨by first | omega | simp_all | (simp_all; omega), rfl⟩, rfl⟩
  · skip
    refine G_aload_n 9 rfl rfl dX6_isSettled_8 ?_
    refine G_gi 12 rfl hR 6 0 p 384 (σ.1 384 p) fl_X6_9 hp rfl rfl rfl rfl dX6_isSettled_9 ?_
    refine G_iconst 13 rfl (4) (by decide) dX6_isSettled_12 ?_
    refine G_icmp_ne 20 16 rfl (by decide) dX6_isSettled_13 (fun c13 => ?_) (fun c13 => ?_)
    · skip
      refine G_iconst 21 rfl (0) (by decide) dX6_isSettled_20 ?_
      refine G_iret (ty := .boolean) rfl (by decide) ?_ dX6_isSettled_21
      exact ⟨Or.inr ⟨by first | omega | simp_all | (simp_all; omega), rfl⟩, rfl⟩
    · skip
      refine G_iconst 17 rfl (1) (by decide) dX6_isSettled_16 ?_
      refine G_goto 21 (by decide) dX6_isSettled_17 ?_
      refine G_iret (ty := .boolean) rfl (by decide) ?_ dX6_isSettled_21
      exact ⟨Or.inl ⟨by first | omega | simp_all | (simp_all; omega), rfl⟩, rfl⟩

set_option maxHeartbeats 4000000 in
set_option maxRecDepth 100000 in
theorem c_X6_part {E : Ev} {m : Nat} {σ : Sg} {τ : Tu} {h : Hp} (hR : RR E m σ τ h) {p : Nat} (hp : p < m) (k : Int32) : Cn E mX6_part (rk 0 0 0) h [.ref (aW E p), .int k] (fun v h' => v = some (.int (if k = 0 then σ.1 384 p else if k = 1 then σ.1 385 p else if k = 2 then σ.1 386 p else -1)) ∧ h' = h) := by
  refine Cn_of (by decide) rfl (by simp [Value.category]) (Nat.le_of_ble_eq_true rfl) ?_
  refine G_iload_n 1 rfl rfl dX6_part_0 ?_
  by_cases k1_0 : k = 0
  · refine G_tableIn 28 dX6_part_1 (by rw [k1_0]; decide) (by rw [k1_0]; decide) (off := 27) (by rw [k1_0]; rfl) (by decide) ?_
    refine G_aload_n 29 rfl rfl dX6_part_28 ?_
    refine G_gi 32 rfl hR 6 0 p 384 (σ.1 384 p) fl_X6_9 hp rfl rfl rfl rfl dX6_part_29 ?_
    refine G_iret (ty := .int) rfl rfl ?_ dX6_part_32
    exact ⟨by simp_all, rfl⟩
  · skip
    by_cases k1_1 : k = 1
    · refine G_tableIn 33 dX6_part_1 (by rw [k1_1]; decide) (by rw [k1_1]; decide) (off := 32) (by rw [k1_1]; rfl) (by decide) ?_
      refine G_aload_n 34 rfl rfl dX6_part_33 ?_
      refine G_gi 37 rfl hR 6 1 p 385 (σ.1 385 p) fl_X6_18 hp rfl rfl rfl rfl dX6_part_34 ?_
      refine G_iret (ty := .int) rfl rfl ?_ dX6_part_37
      exact ⟨by simp_all, rfl⟩
    · skip
      by_cases k1_2 : k = 2
      · refine G_tableIn 38 dX6_part_1 (by rw [k1_2]; decide) (by rw [k1_2]; decide) (off := 37) (by rw [k1_2]; rfl) (by decide) ?_
        refine G_aload_n 39 rfl rfl dX6_part_38 ?_
        refine G_gi 42 rfl hR 6 2 p 386 (σ.1 386 p) fl_X6_15 hp rfl rfl rfl rfl dX6_part_39 ?_
        refine G_iret (ty := .int) rfl rfl ?_ dX6_part_42
        exact ⟨by simp_all, rfl⟩
      · skip
        refine G_tableOut 43 dX6_part_1 (tb_out (n := 2) (by decide) (fun j hj => by rcases j with _ | _ | _ | j; exact k1_0; exact k1_1; exact k1_2; omega)) (by decide) ?_
        refine G_iconst 44 rfl (-1) (by decide) dX6_part_43 ?_
        refine G_iret (ty := .int) rfl rfl ?_ dX6_part_44
        exact ⟨by simp_all, rfl⟩

set_option maxHeartbeats 4000000 in
set_option maxRecDepth 100000 in
theorem c_X3_set {E : Ev} {m : Nat} {σ : Sg} {τ : Tu} {h : Hp} (hR : RR E m σ τ h) {p : Nat} (hp : p < m) (a b c d : Int32) : Cn E mX3_set (rk 0 0 0) h [.ref (aT E p), .int a, .int b, .int c, .int d] (fun v h' => v = none ∧ RR E m (up (up (up (up (up σ 192 p 1) 193 p a) 194 p b) 195 p c) 196 p d) τ h') := by
  refine Cn_of (by decide) rfl (by simp [Value.category]) (Nat.le_of_ble_eq_true rfl) ?_
  refine G_aload_n 1 rfl rfl dX3_set_0 ?_
  refine G_iconst 2 rfl (1) (by decide) dX3_set_1 ?_
  refine G_pz 5 rfl hR 3 0 p 192 fl_X3_9 hp rfl ⟨rfl, rfl⟩ (by decide) rfl rfl dX3_set_2 (fun h hR => ?_)
  refine G_aload_n 6 rfl rfl dX3_set_5 ?_
  refine G_iload_n 7 rfl rfl dX3_set_6 ?_
  refine G_pi 10 rfl hR 3 1 p 193 fl_X3_15 hp rfl ⟨rfl, rfl⟩ rfl rfl dX3_set_7 (fun h hR => ?_)
  refine G_aload_n 11 rfl rfl dX3_set_10 ?_
  refine G_iload_n 12 rfl rfl dX3_set_11 ?_
  refine G_pi 15 rfl hR 3 2 p 194 fl_X3_19 hp rfl ⟨rfl, rfl⟩ rfl rfl dX3_set_12 (fun h hR => ?_)
  refine G_aload_n 16 rfl rfl dX3_set_15 ?_
  refine G_iload_n 17 rfl rfl dX3_set_16 ?_
  refine G_pi 20 rfl hR 3 3 p 195 fl_X3_22 hp rfl ⟨rfl, rfl⟩ rfl rfl dX3_set_17 (fun h hR => ?_)
  refine G_aload_n 21 rfl rfl dX3_set_20 ?_
  refine G_iload 23 rfl rfl dX3_set_21 ?_
  refine G_pi 26 rfl hR 3 4 p 196 fl_X3_25 hp rfl ⟨rfl, rfl⟩ rfl rfl dX3_set_23 (fun h hR => ?_)
  refine G_ret rfl ?_ dX3_set_26
  exact ⟨rfl, hR⟩

set_option maxHeartbeats 4000000 in
set_option maxRecDepth 100000 in
theorem c_X3_part {E : Ev} {m : Nat} {σ : Sg} {τ : Tu} {h : Hp} (hR : RR E m σ τ h) {p : Nat} (hp : p < m) (k : Int32) : Cn E mX3_part (rk 0 0 0) h [.ref (aT E p), .int k] (fun v h' => v = some (.int (if σ.1 192 p = 0 then -1 else if k = 0 then σ.1 193 p else if k = 1 then σ.1 194 p else if k = 2 then σ.1 195 p else if k = 3 then σ.1 196 p else -1)) ∧ h' = h) := by
  refine Cn_of (by decide) rfl (by simp [Value.category]) (Nat.le_of_ble_eq_true rfl) ?_
  refine G_aload_n 1 rfl rfl dX3_part_0 ?_
  refine G_gi 4 rfl hR 3 0 p 192 (σ.1 192 p) fl_X3_9 hp rfl rfl rfl rfl dX3_part_1 ?_
  refine G_if_ne 9 7 rfl (by decide) dX3_part_4 (fun c4 => ?_) (fun c4 => ?_)
  · skip
    refine G_iload_n 10 rfl rfl dX3_part_9 ?_
    by_cases k10_0 : k = 0
    · refine G_tableIn 40 dX3_part_10 (by rw [k10_0]; decide) (by rw [k10_0]; decide) (off := 30) (by rw [k10_0]; rfl) (by decide) ?_
      refine G_aload_n 41 rfl rfl dX3_part_40 ?_
      refine G_gi 44 rfl hR 3 1 p 193 (σ.1 193 p) fl_X3_15 hp rfl rfl rfl rfl dX3_part_41 ?_
      refine G_iret (ty := .int) rfl rfl ?_ dX3_part_44
      exact ⟨by simp_all, rfl⟩
    · skip
      by_cases k10_1 : k = 1
      · refine G_tableIn 45 dX3_part_10 (by rw [k10_1]; decide) (by rw [k10_1]; decide) (off := 35) (by rw [k10_1]; rfl) (by decide) ?_
        refine G_aload_n 46 rfl rfl dX3_part_45 ?_
        refine G_gi 49 rfl hR 3 2 p 194 (σ.1 194 p) fl_X3_19 hp rfl rfl rfl rfl dX3_part_46 ?_
        refine G_iret (ty := .int) rfl rfl ?_ dX3_part_49
        exact ⟨by simp_all, rfl⟩
      · skip
        by_cases k10_2 : k = 2
        · refine G_tableIn 50 dX3_part_10 (by rw [k10_2]; decide) (by rw [k10_2]; decide) (off := 40) (by rw [k10_2]; rfl) (by decide) ?_
          refine G_aload_n 51 rfl rfl dX3_part_50 ?_
          refine G_gi 54 rfl hR 3 3 p 195 (σ.1 195 p) fl_X3_22 hp rfl rfl rfl rfl dX3_part_51 ?_
          refine G_iret (ty := .int) rfl rfl ?_ dX3_part_54
          exact ⟨by simp_all, rfl⟩
        · skip
          by_cases k10_3 : k = 3
          · refine G_tableIn 55 dX3_part_10 (by rw [k10_3]; decide) (by rw [k10_3]; decide) (off := 45) (by rw [k10_3]; rfl) (by decide) ?_
            refine G_aload_n 56 rfl rfl dX3_part_55 ?_
            refine G_gi 59 rfl hR 3 4 p 196 (σ.1 196 p) fl_X3_25 hp rfl rfl rfl rfl dX3_part_56 ?_
            refine G_iret (ty := .int) rfl rfl ?_ dX3_part_59
            exact ⟨by simp_all, rfl⟩
          · skip
            refine G_tableOut 60 dX3_part_10 (tb_out (n := 3) (by decide) (fun j hj => by rcases j with _ | _ | _ | _ | j; exact k10_0; exact k10_1; exact k10_2; exact k10_3; omega)) (by decide) ?_
            refine G_iconst 61 rfl (-1) (by decide) dX3_part_60 ?_
            refine G_iret (ty := .int) rfl rfl ?_ dX3_part_61
            exact ⟨by simp_all, rfl⟩
  · skip
    refine G_iconst 8 rfl (-1) (by decide) dX3_part_7 ?_
    refine G_iret (ty := .int) rfl rfl ?_ dX3_part_8
    exact ⟨by simp_all, rfl⟩

set_option maxHeartbeats 4000000 in
set_option maxRecDepth 100000 in
theorem c_X0_part {E : Ev} {m : Nat} {σ : Sg} {τ : Tu} {h : Hp} (hR : RR E m σ τ h) {n : Nat} (hn : 1 ≤ n ∧ n ≤ sNp σ) (k : Int32) : Cn E mX0_part (rk 0 0 0) h [.ref (aE E m n), .int k] (fun v h' => v = some (.int (if k = 0 then σ.1 0 n else if k = 1 then σ.1 2 n else if k = 2 then σ.1 4 n else if k = 3 then nI n else if k = 4 then σ.1 1 n else -1)) ∧ h' = h) := by
  refine Cn_of (by decide) rfl (by simp [Value.category]) (Nat.le_of_ble_eq_true rfl) ?_
  refine G_iload_n 1 rfl rfl dX0_part_0 ?_
  by_cases k1_0 : k = 0
  · refine G_tableIn 36 dX0_part_1 (by rw [k1_0]; decide) (by rw [k1_0]; decide) (off := 35) (by rw [k1_0]; rfl) (by decide) ?_
    refine G_aload_n 37 rfl rfl dX0_part_36 ?_
    refine G_gi 40 rfl hR 0 0 n 0 (σ.1 0 n) fl_X0_9 hn rfl rfl rfl rfl dX0_part_37 ?_
    refine G_iret (ty := .int) rfl rfl ?_ dX0_part_40
    exact ⟨by simp_all, rfl⟩
  · skip
    by_cases k1_1 : k = 1
    · refine G_tableIn 41 dX0_part_1 (by rw [k1_1]; decide) (by rw [k1_1]; decide) (off := 40) (by rw [k1_1]; rfl) (by decide) ?_
      refine G_aload_n 42 rfl rfl dX0_part_41 ?_
      refine G_gi 45 rfl hR 0 2 n 2 (σ.1 2 n) fl_X0_23 hn rfl rfl rfl rfl dX0_part_42 ?_
      refine G_iret (ty := .int) rfl rfl ?_ dX0_part_45
      exact ⟨by simp_all, rfl⟩
    · skip
      by_cases k1_2 : k = 2
      · refine G_tableIn 46 dX0_part_1 (by rw [k1_2]; decide) (by rw [k1_2]; decide) (off := 45) (by rw [k1_2]; rfl) (by decide) ?_
        refine G_aload_n 47 rfl rfl dX0_part_46 ?_
        refine G_gi 50 rfl hR 0 4 n 4 (σ.1 4 n) fl_X0_31 hn rfl rfl rfl rfl dX0_part_47 ?_
        refine G_iret (ty := .int) rfl rfl ?_ dX0_part_50
        exact ⟨by simp_all, rfl⟩
      · skip
        by_cases k1_3 : k = 3
        · refine G_tableIn 51 dX0_part_1 (by rw [k1_3]; decide) (by rw [k1_3]; decide) (off := 50) (by rw [k1_3]; rfl) (by decide) ?_
          refine G_aload_n 52 rfl rfl dX0_part_51 ?_
          refine G_e5 55 rfl hR fl_X0_32 hn dX0_part_52 ?_
          refine G_iret (ty := .int) rfl rfl ?_ dX0_part_55
          exact ⟨by simp_all, rfl⟩
        · skip
          by_cases k1_4 : k = 4
          · refine G_tableIn 56 dX0_part_1 (by rw [k1_4]; decide) (by rw [k1_4]; decide) (off := 55) (by rw [k1_4]; rfl) (by decide) ?_
            refine G_aload_n 57 rfl rfl dX0_part_56 ?_
            refine G_gi 60 rfl hR 0 1 n 1 (σ.1 1 n) fl_X0_15 hn rfl rfl rfl rfl dX0_part_57 ?_
            refine G_iret (ty := .int) rfl rfl ?_ dX0_part_60
            exact ⟨by simp_all, rfl⟩
          · skip
            refine G_tableOut 61 dX0_part_1 (tb_out (n := 4) (by decide) (fun j hj => by rcases j with _ | _ | _ | _ | _ | j; exact k1_0; exact k1_1; exact k1_2; exact k1_3; exact k1_4; omega)) (by decide) ?_
            refine G_iconst 62 rfl (-1) (by decide) dX0_part_61 ?_
            refine G_iret (ty := .int) rfl rfl ?_ dX0_part_62
            exact ⟨by simp_all, rfl⟩

set_option maxHeartbeats 4000000 in
set_option maxRecDepth 100000 in
theorem c_X2_matches {E : Ev} {m : Nat} {σ : Sg} {τ : Tu} {h : Hp} (hR : RR E m σ τ h) {a b : Nat} (ha : a < 8 * m) (hb : b < 8 * m) : Cn E mX2_matches (rk 0 0 0) h [.ref (aG E a), .ref (aG E b)] (fun v h' => ((¬ σ.1 131 a = 0 ∧ ¬ σ.1 131 b = 0 ∧ σ.1 129 a = σ.1 129 b ∧ ¬ σ.1 128 a = σ.1 128 b) ∧ v = some (.int 1) ∨ ¬ (¬ σ.1 131 a = 0 ∧ ¬ σ.1 131 b = 0 ∧ σ.1 129 a = σ.1 129 b ∧ ¬ σ.1 128 a = σ.1 128 b) ∧ v = some (.int 0)) ∧ h' = h) := by
  refine Cn_of (by decide) rfl (by simp [Value.category]) (Nat.le_of_ble_eq_true rfl) ?_
  refine G_aload_n 1 rfl rfl dX2_matches_0 ?_
  refine G_gi 4 rfl hR 2 3 a 131 (σ.1 131 a) fl_X2_7 ha rfl rfl rfl rfl dX2_matches_1 ?_
  refine G_if_eq 40 7 rfl (by decide) dX2_matches_4 (fun c4 => ?_) (fun c4 => ?_)
  · skip
    refine G_iconst 41 rfl (0) (by decide) dX2_matches_40 ?_
    refine G_iret (ty := .boolean) rfl (by decide) ?_ dX2_matches_41
    exact ⟨Or.inr ⟨by first | omega | simp_all | (simp_all; omega), rfl⟩, rfl⟩
  · skip
    refine G_aload_n 8 rfl rfl dX2_matches_7 ?_
    refine G_gi 11 rfl hR 2 3 b 131 (σ.1 131 b) fl_X2_7 hb rfl rfl rfl rfl dX2_matches_8 ?_
    refine G_if_eq 40 14 rfl (by decide) dX2_matches_11 (fun c11 => ?_) (fun c11 => ?_)
    · skip
      refine G_iconst 41 rfl (0) (by decide) dX2_matches_40 ?_
      refine G_iret (ty := .boolean) rfl (by decide) ?_ dX2_matches_41
      exact ⟨Or.inr ⟨by first | omega | simp_all | (simp_all; omega), rfl⟩, rfl⟩
    · skip
      refine G_aload_n 15 rfl rfl dX2_matches_14 ?_
      refine G_gi 18 rfl hR 2 1 a 129 (σ.1 129 a) fl_X2_13 ha rfl rfl rfl rfl dX2_matches_15 ?_
      refine G_aload_n 19 rfl rfl dX2_matches_18 ?_
      refine G_gi 22 rfl hR 2 1 b 129 (σ.1 129 b) fl_X2_13 hb rfl rfl rfl rfl dX2_matches_19 ?_
      refine G_icmp_ne 40 25 rfl (by decide) dX2_matches_22 (fun c22 => ?_) (fun c22 => ?_)
      · skip
        refine G_iconst 41 rfl (0) (by decide) dX2_matches_40 ?_
        refine G_iret (ty := .boolean) rfl (by decide) ?_ dX2_matches_41
        exact ⟨Or.inr ⟨by first | omega | simp_all | (simp_all; omega), rfl⟩, rfl⟩
      · skip
        refine G_aload_n 26 rfl rfl dX2_matches_25 ?_
        refine G_gi 29 rfl hR 2 0 a 128 (σ.1 128 a) fl_X2_17 ha rfl rfl rfl rfl dX2_matches_26 ?_
        refine G_aload_n 30 rfl rfl dX2_matches_29 ?_
        refine G_gi 33 rfl hR 2 0 b 128 (σ.1 128 b) fl_X2_17 hb rfl rfl rfl rfl dX2_matches_30 ?_
        refine G_icmp_eq 40 36 rfl (by decide) dX2_matches_33 (fun c33 => ?_) (fun c33 => ?_)
        · skip
          refine G_iconst 41 rfl (0) (by decide) dX2_matches_40 ?_
          refine G_iret (ty := .boolean) rfl (by decide) ?_ dX2_matches_41
          exact ⟨Or.inr ⟨by first | omega | simp_all | (simp_all; omega), rfl⟩, rfl⟩
        · skip
          refine G_iconst 37 rfl (1) (by decide) dX2_matches_36 ?_
          refine G_goto 41 (by decide) dX2_matches_37 ?_
          refine G_iret (ty := .boolean) rfl (by decide) ?_ dX2_matches_41
          exact ⟨Or.inl ⟨by first | omega | simp_all | (simp_all; omega), rfl⟩, rfl⟩

set_option maxHeartbeats 4000000 in
set_option maxRecDepth 100000 in
theorem c_X5_becomeIdle {E : Ev} {m : Nat} {σ : Sg} {τ : Tu} {h : Hp} (hR : RR E m σ τ h) {p : Nat} (hp : p < m) : Cn E mX5_becomeIdle (rk 0 0 0) h [.ref (aP E p)] (fun v h' => v = none ∧ RR E m (up (up (up σ 325 p 1) 326 p 0) 327 p 0) τ h') := by
  refine Cn_of (by decide) rfl (by simp [Value.category]) (Nat.le_of_ble_eq_true rfl) ?_
  refine G_aload_n 1 rfl rfl dX5_becomeIdle_0 ?_
  refine G_iconst 2 rfl (1) (by decide) dX5_becomeIdle_1 ?_
  refine G_pi 5 rfl hR 5 5 p 325 fl_X5_37 hp rfl ⟨rfl, rfl⟩ rfl rfl dX5_becomeIdle_2 (fun h hR => ?_)
  refine G_aload_n 6 rfl rfl dX5_becomeIdle_5 ?_
  refine G_iconst 7 rfl (0) (by decide) dX5_becomeIdle_6 ?_
  refine G_pi 10 rfl hR 5 6 p 326 fl_X5_48 hp rfl ⟨rfl, rfl⟩ rfl rfl dX5_becomeIdle_7 (fun h hR => ?_)
  refine G_aload_n 11 rfl rfl dX5_becomeIdle_10 ?_
  refine G_iconst 12 rfl (0) (by decide) dX5_becomeIdle_11 ?_
  refine G_pi 15 rfl hR 5 7 p 327 fl_X5_51 hp rfl ⟨rfl, rfl⟩ rfl rfl dX5_becomeIdle_12 (fun h hR => ?_)
  refine G_ret rfl ?_ dX5_becomeIdle_15
  exact ⟨rfl, hR⟩

set_option maxHeartbeats 4000000 in
set_option maxRecDepth 100000 in
theorem c_X5_isOffering {E : Ev} {m : Nat} {σ : Sg} {τ : Tu} {h : Hp} (hR : RR E m σ τ h) {p : Nat} (hp : p < m) : Cn E mX5_isOffering (rk 0 0 0) h [.ref (aP E p)] (fun v h' => ((¬ σ.1 325 p < 2 ∧ ¬ 11 < σ.1 325 p) ∧ v = some (.int 1) ∨ ¬ (¬ σ.1 325 p < 2 ∧ ¬ 11 < σ.1 325 p) ∧ v = some (.int 0)) ∧ h' = h) := by
  refine Cn_of (by decide) rfl (by simp [Value.category]) (Nat.le_of_ble_eq_true rfl) ?_
  refine G_aload_n 1 rfl rfl dX5_isOffering_0 ?_
  refine G_gi 4 rfl hR 5 5 p 325 (σ.1 325 p) fl_X5_37 hp rfl rfl rfl rfl dX5_isOffering_1 ?_
  refine G_iconst 5 rfl (2) (by decide) dX5_isOffering_4 ?_
  refine G_icmp_lt 21 8 rfl (by decide) dX5_isOffering_5 (fun c5 => ?_) (fun c5 => ?_)
  · skip
    refine G_iconst 22 rfl (0) (by decide) dX5_isOffering_21 ?_
    refine G_iret (ty := .boolean) rfl (by decide) ?_ dX5_isOffering_22
    exact ⟨Or.inr ⟨by first | omega | simp_all | (simp_all; omega), rfl⟩, rfl⟩
  · skip
    refine G_aload_n 9 rfl rfl dX5_isOffering_8 ?_
    refine G_gi 12 rfl hR 5 5 p 325 (σ.1 325 p) fl_X5_37 hp rfl rfl rfl rfl dX5_isOffering_9 ?_
    refine G_bipush 14 rfl (11) (by decide) dX5_isOffering_12 ?_
    refine G_icmp_gt 21 17 rfl (by decide) dX5_isOffering_14 (fun c14 => ?_) (fun c14 => ?_)
    · skip
      refine G_iconst 22 rfl (0) (by decide) dX5_isOffering_21 ?_
      refine G_iret (ty := .boolean) rfl (by decide) ?_ dX5_isOffering_22
      exact ⟨Or.inr ⟨by first | omega | simp_all | (simp_all; omega), rfl⟩, rfl⟩
    · skip
      refine G_iconst 18 rfl (1) (by decide) dX5_isOffering_17 ?_
      refine G_goto 22 (by decide) dX5_isOffering_18 ?_
      refine G_iret (ty := .boolean) rfl (by decide) ?_ dX5_isOffering_22
      exact ⟨Or.inl ⟨by first | omega | simp_all | (simp_all; omega), rfl⟩, rfl⟩

set_option maxHeartbeats 4000000 in
set_option maxRecDepth 100000 in
theorem c_X5_isClaiming {E : Ev} {m : Nat} {σ : Sg} {τ : Tu} {h : Hp} (hR : RR E m σ τ h) {p : Nat} (hp : p < m) : Cn E mX5_isClaiming (rk 0 0 0) h [.ref (aP E p)] (fun v h' => ((¬ σ.1 325 p < 5 ∧ ¬ 8 < σ.1 325 p) ∧ v = some (.int 1) ∨ ¬ (¬ σ.1 325 p < 5 ∧ ¬ 8 < σ.1 325 p) ∧ v = some (.int 0)) ∧ h' = h) := by
  refine Cn_of (by decide) rfl (by simp [Value.category]) (Nat.le_of_ble_eq_true rfl) ?_
  refine G_aload_n 1 rfl rfl dX5_isClaiming_0 ?_
  refine G_gi 4 rfl hR 5 5 p 325 (σ.1 325 p) fl_X5_37 hp rfl rfl rfl rfl dX5_isClaiming_1 ?_
  refine G_iconst 5 rfl (5) (by decide) dX5_isClaiming_4 ?_
  refine G_icmp_lt 21 8 rfl (by decide) dX5_isClaiming_5 (fun c5 => ?_) (fun c5 => ?_)
  · skip
    refine G_iconst 22 rfl (0) (by decide) dX5_isClaiming_21 ?_
    refine G_iret (ty := .boolean) rfl (by decide) ?_ dX5_isClaiming_22
    exact ⟨Or.inr ⟨by first | omega | simp_all | (simp_all; omega), rfl⟩, rfl⟩
  · skip
    refine G_aload_n 9 rfl rfl dX5_isClaiming_8 ?_
    refine G_gi 12 rfl hR 5 5 p 325 (σ.1 325 p) fl_X5_37 hp rfl rfl rfl rfl dX5_isClaiming_9 ?_
    refine G_bipush 14 rfl (8) (by decide) dX5_isClaiming_12 ?_
    refine G_icmp_gt 21 17 rfl (by decide) dX5_isClaiming_14 (fun c14 => ?_) (fun c14 => ?_)
    · skip
      refine G_iconst 22 rfl (0) (by decide) dX5_isClaiming_21 ?_
      refine G_iret (ty := .boolean) rfl (by decide) ?_ dX5_isClaiming_22
      exact ⟨Or.inr ⟨by first | omega | simp_all | (simp_all; omega), rfl⟩, rfl⟩
    · skip
      refine G_iconst 18 rfl (1) (by decide) dX5_isClaiming_17 ?_
      refine G_goto 22 (by decide) dX5_isClaiming_18 ?_
      refine G_iret (ty := .boolean) rfl (by decide) ?_ dX5_isClaiming_22
      exact ⟨Or.inl ⟨by first | omega | simp_all | (simp_all; omega), rfl⟩, rfl⟩

set_option maxHeartbeats 4000000 in
set_option maxRecDepth 100000 in
theorem c_X5_heedsTime {E : Ev} {m : Nat} {σ : Sg} {τ : Tu} {h : Hp} (hR : RR E m σ τ h) {p : Nat} (hp : p < m) : Cn E mX5_heedsTime (rk 0 0 0) h [.ref (aP E p)] (fun v h' => ((σ.1 325 p = 2 ∨ σ.1 325 p = 3 ∨ σ.1 325 p = 9 ∨ σ.1 325 p = 10) ∧ v = some (.int 1) ∨ ¬ (σ.1 325 p = 2 ∨ σ.1 325 p = 3 ∨ σ.1 325 p = 9 ∨ σ.1 325 p = 10) ∧ v = some (.int 0)) ∧ h' = h) := by
  refine Cn_of (by decide) rfl (by simp [Value.category]) (Nat.le_of_ble_eq_true rfl) ?_
  refine G_aload_n 1 rfl rfl dX5_heedsTime_0 ?_
  refine G_gi 4 rfl hR 5 5 p 325 (σ.1 325 p) fl_X5_37 hp rfl rfl rfl rfl dX5_heedsTime_1 ?_
  refine G_iconst 5 rfl (2) (by decide) dX5_heedsTime_4 ?_
  refine G_icmp_eq 34 8 rfl (by decide) dX5_heedsTime_5 (fun c5 => ?_) (fun c5 => ?_)
  · skip
    refine G_iconst 35 rfl (1) (by decide) dX5_heedsTime_34 ?_
    refine G_goto 39 (by decide) dX5_heedsTime_35 ?_
    refine G_iret (ty := .boolean) rfl (by decide) ?_ dX5_heedsTime_39
    exact ⟨Or.inl ⟨by first | omega | simp_all | (simp_all; omega), rfl⟩, rfl⟩
  · skip
    refine G_aload_n 9 rfl rfl dX5_heedsTime_8 ?_
    refine G_gi 12 rfl hR 5 5 p 325 (σ.1 325 p) fl_X5_37 hp rfl rfl rfl rfl dX5_heedsTime_9 ?_
    refine G_iconst 13 rfl (3) (by decide) dX5_heedsTime_12 ?_
    refine G_icmp_eq 34 16 rfl (by decide) dX5_heedsTime_13 (fun c13 => ?_) (fun c13 => ?_)
    · skip
      refine G_iconst 35 rfl (1) (by decide) dX5_heedsTime_34 ?_
      refine G_goto 39 (by decide) dX5_heedsTime_35 ?_
      refine G_iret (ty := .boolean) rfl (by decide) ?_ dX5_heedsTime_39
      exact ⟨Or.inl ⟨by first | omega | simp_all | (simp_all; omega), rfl⟩, rfl⟩
    · skip
      refine G_aload_n 17 rfl rfl dX5_heedsTime_16 ?_
      refine G_gi 20 rfl hR 5 5 p 325 (σ.1 325 p) fl_X5_37 hp rfl rfl rfl rfl dX5_heedsTime_17 ?_
      refine G_bipush 22 rfl (9) (by decide) dX5_heedsTime_20 ?_
      refine G_icmp_eq 34 25 rfl (by decide) dX5_heedsTime_22 (fun c22 => ?_) (fun c22 => ?_)
      · skip
        refine G_iconst 35 rfl (1) (by decide) dX5_heedsTime_34 ?_
        refine G_goto 39 (by decide) dX5_heedsTime_35 ?_
        refine G_iret (ty := .boolean) rfl (by decide) ?_ dX5_heedsTime_39
        exact ⟨Or.inl ⟨by first | omega | simp_all | (simp_all; omega), rfl⟩, rfl⟩
      · skip
        refine G_aload_n 26 rfl rfl dX5_heedsTime_25 ?_
        refine G_gi 29 rfl hR 5 5 p 325 (σ.1 325 p) fl_X5_37 hp rfl rfl rfl rfl dX5_heedsTime_26 ?_
        refine G_bipush 31 rfl (10) (by decide) dX5_heedsTime_29 ?_
        refine G_icmp_ne 38 34 rfl (by decide) dX5_heedsTime_31 (fun c31 => ?_) (fun c31 => ?_)
        · skip
          refine G_iconst 39 rfl (0) (by decide) dX5_heedsTime_38 ?_
          refine G_iret (ty := .boolean) rfl (by decide) ?_ dX5_heedsTime_39
          exact ⟨Or.inr ⟨by first | omega | simp_all | (simp_all; omega), rfl⟩, rfl⟩
        · skip
          refine G_iconst 35 rfl (1) (by decide) dX5_heedsTime_34 ?_
          refine G_goto 39 (by decide) dX5_heedsTime_35 ?_
          refine G_iret (ty := .boolean) rfl (by decide) ?_ dX5_heedsTime_39
          exact ⟨Or.inl ⟨by first | omega | simp_all | (simp_all; omega), rfl⟩, rfl⟩

set_option maxHeartbeats 4000000 in
set_option maxRecDepth 100000 in
theorem c_X5_isDue {E : Ev} {m : Nat} {σ : Sg} {τ : Tu} {h : Hp} (hR : RR E m σ τ h) {p : Nat} (hp : p < m) (k : Int32) : Cn E mX5_isDue (rk 0 0 0) h [.ref (aP E p), .int k] (fun v h' => ((¬ σ.1 328 p = -1 ∧ ¬ k < σ.1 328 p) ∧ v = some (.int 1) ∨ ¬ (¬ σ.1 328 p = -1 ∧ ¬ k < σ.1 328 p) ∧ v = some (.int 0)) ∧ h' = h) := by
  refine Cn_of (by decide) rfl (by simp [Value.category]) (Nat.le_of_ble_eq_true rfl) ?_
  refine G_aload_n 1 rfl rfl dX5_isDue_0 ?_
  refine G_gi 4 rfl hR 5 8 p 328 (σ.1 328 p) fl_X5_41 hp rfl rfl rfl rfl dX5_isDue_1 ?_
  refine G_iconst 5 rfl (-1) (by decide) dX5_isDue_4 ?_
  refine G_icmp_eq 20 8 rfl (by decide) dX5_isDue_5 (fun c5 => ?_) (fun c5 => ?_)
  · skip
    refine G_iconst 21 rfl (0) (by decide) dX5_isDue_20 ?_
    refine G_iret (ty := .boolean) rfl (by decide) ?_ dX5_isDue_21
    exact ⟨Or.inr ⟨by first | omega | simp_all | (simp_all; omega), rfl⟩, rfl⟩
  · skip
    refine G_iload_n 9 rfl rfl dX5_isDue_8 ?_
    refine G_aload_n 10 rfl rfl dX5_isDue_9 ?_
    refine G_gi 13 rfl hR 5 8 p 328 (σ.1 328 p) fl_X5_41 hp rfl rfl rfl rfl dX5_isDue_10 ?_
    refine G_icmp_lt 20 16 rfl (by decide) dX5_isDue_13 (fun c13 => ?_) (fun c13 => ?_)
    · skip
      refine G_iconst 21 rfl (0) (by decide) dX5_isDue_20 ?_
      refine G_iret (ty := .boolean) rfl (by decide) ?_ dX5_isDue_21
      exact ⟨Or.inr ⟨by first | omega | simp_all | (simp_all; omega), rfl⟩, rfl⟩
    · skip
      refine G_iconst 17 rfl (1) (by decide) dX5_isDue_16 ?_
      refine G_goto 21 (by decide) dX5_isDue_17 ?_
      refine G_iret (ty := .boolean) rfl (by decide) ?_ dX5_isDue_21
      exact ⟨Or.inl ⟨by first | omega | simp_all | (simp_all; omega), rfl⟩, rfl⟩

set_option maxHeartbeats 4000000 in
set_option maxRecDepth 100000 in
theorem c_X5_lookAt {E : Ev} {m : Nat} {σ : Sg} {τ : Tu} {h : Hp} (hR : RR E m σ τ h) {p : Nat} (hp : p < m) (k : Int32) : Cn E mX5_lookAt (rk 0 0 0) h [.ref (aP E p), .int k] (fun v h' => v = none ∧ RR E m (up (up (up σ 329 p k) 330 p 0) 325 p 3) τ h') := by
  refine Cn_of (by decide) rfl (by simp [Value.category]) (Nat.le_of_ble_eq_true rfl) ?_
  refine G_aload_n 1 rfl rfl dX5_lookAt_0 ?_
  refine G_iload_n 2 rfl rfl dX5_lookAt_1 ?_
  refine G_pi 5 rfl hR 5 9 p 329 fl_X5_112 hp rfl ⟨rfl, rfl⟩ rfl rfl dX5_lookAt_2 (fun h hR => ?_)
  refine G_aload_n 6 rfl rfl dX5_lookAt_5 ?_
  refine G_iconst 7 rfl (0) (by decide) dX5_lookAt_6 ?_
  refine G_pi 10 rfl hR 5 10 p 330 fl_X5_119 hp rfl ⟨rfl, rfl⟩ rfl rfl dX5_lookAt_7 (fun h hR => ?_)
  refine G_aload_n 11 rfl rfl dX5_lookAt_10 ?_
  refine G_iconst 12 rfl (3) (by decide) dX5_lookAt_11 ?_
  refine G_pi 15 rfl hR 5 5 p 325 fl_X5_37 hp rfl ⟨rfl, rfl⟩ rfl rfl dX5_lookAt_12 (fun h hR => ?_)
  refine G_ret rfl ?_ dX5_lookAt_15
  exact ⟨rfl, hR⟩

set_option maxHeartbeats 4000000 in
set_option maxRecDepth 100000 in
theorem c_X5_standing {E : Ev} {m : Nat} {σ : Sg} {τ : Tu} {h : Hp} (hR : RR E m σ τ h) {p : Nat} (hp : p < m) : Cn E mX5_standing (rk 0 0 0) h [.ref (aP E p)] (fun v h' => v = some (.int (if σ.1 325 p = 0 then -1 else if σ.1 325 p = 1 then 4 else if σ.1 325 p = 10 then 1 else if σ.1 325 p = 12 then (if σ.1 384 p = 3 then 2 else σ.1 334 p) else 0)) ∧ h' = h) := by
  refine Cn_of (by decide) rfl (by simp [Value.category]) (Nat.le_of_ble_eq_true rfl) ?_
  refine G_aload_n 1 rfl rfl dX5_standing_0 ?_
  refine G_gi 4 rfl hR 5 5 p 325 (σ.1 325 p) fl_X5_37 hp rfl rfl rfl rfl dX5_standing_1 ?_
  by_cases k4_0 : σ.1 325 p = 0
  · refine G_lookup 48 (x := σ.1 325 p) dX5_standing_4 (by decide) (off := 44) (by rw [k4_0]; decide) (by decide) ?_
    refine G_iconst 49 rfl (-1) (by decide) dX5_standing_48 ?_
    refine G_iret (ty := .int) rfl rfl ?_ dX5_standing_49
    exact ⟨by simp_all, rfl⟩
  · skip
    by_cases k4_1 : σ.1 325 p = 1
    · refine G_lookup 50 (x := σ.1 325 p) dX5_standing_4 (by decide) (off := 46) (by rw [k4_1]; decide) (by decide) ?_
      refine G_iconst 51 rfl (4) (by decide) dX5_standing_50 ?_
      refine G_iret (ty := .int) rfl rfl ?_ dX5_standing_51
      exact ⟨by simp_all, rfl⟩
    · skip
      by_cases k4_10 : σ.1 325 p = 10
      · refine G_lookup 52 (x := σ.1 325 p) dX5_standing_4 (by decide) (off := 48) (by rw [k4_10]; decide) (by decide) ?_
        refine G_iconst 53 rfl (1) (by decide) dX5_standing_52 ?_
        refine G_iret (ty := .int) rfl rfl ?_ dX5_standing_53
        exact ⟨by simp_all, rfl⟩
      · skip
        by_cases k4_12 : σ.1 325 p = 12
        · refine G_lookup 54 (x := σ.1 325 p) dX5_standing_4 (by decide) (off := 50) (by rw [k4_12]; decide) (by decide) ?_
          refine G_aload_n 55 rfl rfl dX5_standing_54 ?_
          refine G_p1 58 rfl hR fl_X5_12 hp dX5_standing_55 ?_
          refine G_gi 61 rfl hR 6 0 p 384 (σ.1 384 p) fl_X5_115 hp rfl rfl rfl rfl dX5_standing_58 ?_
          refine G_iconst 62 rfl (3) (by decide) dX5_standing_61 ?_
          refine G_icmp_ne 69 65 rfl (by decide) dX5_standing_62 (fun c62 => ?_) (fun c62 => ?_)
          · skip
            refine G_aload_n 70 rfl rfl dX5_standing_69 ?_
            refine G_gi 73 rfl hR 5 14 p 334 (σ.1 334 p) fl_X5_84 hp rfl rfl rfl rfl dX5_standing_70 ?_
            refine G_iret (ty := .int) rfl rfl ?_ dX5_standing_73
            exact ⟨by simp_all, rfl⟩
          · skip
            refine G_iconst 66 rfl (2) (by decide) dX5_standing_65 ?_
            refine G_goto 73 (by decide) dX5_standing_66 ?_
            refine G_iret (ty := .int) rfl rfl ?_ dX5_standing_73
            exact ⟨by simp_all, rfl⟩
        · skip
          refine G_lookup 74 dX5_standing_4 (by decide) (off := 70) (look_out k4_0 k4_1 k4_10 k4_12) (by decide) ?_
          refine G_iconst 75 rfl (0) (by decide) dX5_standing_74 ?_
          refine G_iret (ty := .int) rfl rfl ?_ dX5_standing_75
          exact ⟨by simp_all, rfl⟩
end
section
set_option maxHeartbeats 4000000 in
set_option maxRecDepth 100000 in
theorem lp_X5_nextOn {E : Ev} {m : Nat} {σ : Sg} {τ : Tu} {h : Hp} (hR : RR E m σ τ h) {p : Nat} (hp : p < m) {g : Nat} (hg : σ.1 326 p = nI g) (hg8 : g ≤ 8) (a0 : Nat) : ∀ (n a : Nat), a + n = g → fOn (fun j => σ.1 131 (8 * p + j)) (g - a0) a0 = fOn (fun j => σ.1 131 (8 * p + j)) n a → G E mX5_nextOn (rk 1 0 0) (fun v h' => v = some (.int (oI (fOn (fun j => σ.1 131 (8 * p + j)) (g - a0) a0))) ∧ h' = h) 6 [some (.ref (aP E p)), some (.int (nI a0)), some (.int (nI a))] [] h 0 0 := by
  intro n
  induction n with
  | zero =>
    intro a ha hb
    refine G_iload_n 7 rfl rfl dX5_nextOn_6 ?_
    refine G_aload_n 8 rfl rfl dX5_nextOn_7 ?_
    refine G_gi 11 rfl hR 5 6 p 326 (σ.1 326 p) fl_X5_48 hp rfl rfl rfl rfl dX5_nextOn_8 ?_
    refine G_icmpT_ge 43 (by rw [hg]; exact nI_le (by omega) (by omega)) (by decide) dX5_nextOn_11 ?_
    refine G_iconst 44 rfl (-1) (by decide) dX5_nextOn_43 ?_
    refine G_iret (ty := .int) rfl rfl ?_ dX5_nextOn_44
    exact ⟨by rw [hb]; first | rfl | (rw [fOn_succ, if_neg c32]; rfl), rfl⟩
  | succ n ih =>
    intro a ha hb
    refine G_iload_n 7 rfl rfl dX5_nextOn_6 ?_
    refine G_aload_n 8 rfl rfl dX5_nextOn_7 ?_
    refine G_gi 11 rfl hR 5 6 p 326 (σ.1 326 p) fl_X5_48 hp rfl rfl rfl rfl dX5_nextOn_8 ?_
    refine G_icmpF_ge 14 rfl (by rw [hg]; exact nI_ge (by omega) (by omega)) ⟨43, by decide⟩ dX5_nextOn_11 ?_
    refine G_iload_n 15 rfl rfl dX5_nextOn_14 ?_
    refine G_aload_n 16 rfl rfl dX5_nextOn_15 ?_
    refine G_p3 19 rfl hR fl_X5_27 hp dX5_nextOn_16 ?_
    refine G_lenGA 20 rfl hR hp dX5_nextOn_19 ?_
    refine G_icmpF_ge 23 rfl (nI_ge (b := 8) (by omega) (by omega)) ⟨43, by decide⟩ dX5_nextOn_20 ?_
    refine G_aload_n 24 rfl rfl dX5_nextOn_23 ?_
    refine G_p3 27 rfl hR fl_X5_27 hp dX5_nextOn_24 ?_
    refine G_iload_n 28 rfl rfl dX5_nextOn_27 ?_
    refine G_guards 29 rfl hR (p := p) (j := a) rfl hp (by omega) dX5_nextOn_28 ?_
    refine G_gi 32 rfl hR 2 3 (8 * p + a) 131 (σ.1 131 (8 * p + a)) fl_X5_63 (gvd hp (by omega)) rfl rfl rfl rfl dX5_nextOn_29 ?_
    refine G_if_eq 37 35 rfl (by decide) dX5_nextOn_32 (fun c32 => ?_) (fun c32 => ?_)
    · skip
      refine G_iinc 40 rfl (nI (a + 1)) rfl (inc1 a) (by decide) dX5_nextOn_37 ?_
      refine G_goto 6 (by decide) dX5_nextOn_40 ?_
      exact ih (a + 1) (by omega) (by rw [hb, fOn_succ, if_pos c32])
    · skip
      refine G_iload_n 36 rfl rfl dX5_nextOn_35 ?_
      refine G_iret (ty := .int) rfl rfl ?_ dX5_nextOn_36
      exact ⟨by rw [hb]; first | rfl | (rw [fOn_succ, if_neg c32]; rfl), rfl⟩

set_option maxHeartbeats 4000000 in
set_option maxRecDepth 100000 in
theorem c_X5_nextOn {E : Ev} {m : Nat} {σ : Sg} {τ : Tu} {h : Hp} (hR : RR E m σ τ h) {p : Nat} (hp : p < m) {g : Nat} (hg : σ.1 326 p = nI g) (hg8 : g ≤ 8) (a0 : Nat) (ha0 : a0 ≤ 9) : Cn E mX5_nextOn (rk 1 0 0) h [.ref (aP E p), .int (nI a0)] (fun v h' => v = some (.int (oI (fOn (fun j => σ.1 131 (8 * p + j)) (g - a0) a0))) ∧ h' = h) := by
  refine Cn_of (by decide) rfl (by simp [Value.category]) (Nat.le_of_ble_eq_true rfl) ?_
  refine G_iload_n 1 rfl rfl dX5_nextOn_0 ?_
  refine G_iconst 2 rfl (0) (by decide) dX5_nextOn_1 ?_
  refine G_mmax 5 rfl w_max_lX5 ⟨by decide, by decide⟩ (Nat.le_of_ble_eq_true rfl) dX5_nextOn_2 ?_
  rw [if_neg (nI_pos (by omega))]
  refine G_istore_n 6 rfl (by decide) dX5_nextOn_5 ?_
  by_cases q : a0 ≤ g
  · exact lp_X5_nextOn hR hp hg hg8 a0 (g - a0) a0 (by omega) rfl
  · have e0 : g - a0 = 0 := by omega
    refine G_iload_n 7 rfl rfl dX5_nextOn_6 ?_
    refine G_aload_n 8 rfl rfl dX5_nextOn_7 ?_
    refine G_gi 11 rfl hR 5 6 p 326 (σ.1 326 p) fl_X5_48 hp rfl rfl rfl rfl dX5_nextOn_8 ?_
    refine G_icmpT_ge 43 (by rw [hg]; exact nI_le (by omega) (by omega)) (by decide) dX5_nextOn_11 ?_
    refine G_iconst 44 rfl (-1) (by decide) dX5_nextOn_43 ?_
    refine G_iret (ty := .int) rfl rfl ?_ dX5_nextOn_44
    rw [e0]
    exact ⟨rfl, rfl⟩

set_option maxHeartbeats 4000000 in
set_option maxRecDepth 100000 in
theorem c_X5_currentGuard {E : Ev} {m : Nat} {σ : Sg} {τ : Tu} {h : Hp} (hR : RR E m σ τ h) {p : Nat} (hp : p < m) {g : Nat} (hg : σ.1 326 p = nI g) (hg8 : g ≤ 8) {j : Nat} (hj : σ.1 329 p = nI j) (hjg : j < g) : Cn E mX5_currentGuard (rk 0 0 0) h [.ref (aP E p)] (fun v h' => v = some (.ref (aG E (8 * p + j))) ∧ h' = h) := by
  refine Cn_of (by decide) rfl (by simp [Value.category]) (Nat.le_of_ble_eq_true rfl) ?_
  refine G_aload_n 1 rfl rfl dX5_currentGuard_0 ?_
  refine G_gi 4 rfl hR 5 9 p 329 (σ.1 329 p) fl_X5_112 hp rfl rfl rfl rfl dX5_currentGuard_1 ?_
  refine G_ifF_lt 7 rfl (by rw [hj]; exact nI_pos (by omega)) ⟨42, by decide⟩ dX5_currentGuard_4 ?_
  refine G_aload_n 8 rfl rfl dX5_currentGuard_7 ?_
  refine G_gi 11 rfl hR 5 9 p 329 (σ.1 329 p) fl_X5_112 hp rfl rfl rfl rfl dX5_currentGuard_8 ?_
  refine G_aload_n 12 rfl rfl dX5_currentGuard_11 ?_
  refine G_gi 15 rfl hR 5 6 p 326 (σ.1 326 p) fl_X5_48 hp rfl rfl rfl rfl dX5_currentGuard_12 ?_
  refine G_icmpF_ge 18 rfl (by rw [hg, hj]; exact nI_ge (by omega) (by omega)) ⟨42, by decide⟩ dX5_currentGuard_15 ?_
  refine G_aload_n 19 rfl rfl dX5_currentGuard_18 ?_
  refine G_gi 22 rfl hR 5 9 p 329 (σ.1 329 p) fl_X5_112 hp rfl rfl rfl rfl dX5_currentGuard_19 ?_
  refine G_aload_n 23 rfl rfl dX5_currentGuard_22 ?_
  refine G_p3 26 rfl hR fl_X5_27 hp dX5_currentGuard_23 ?_
  refine G_lenGA 27 rfl hR hp dX5_currentGuard_26 ?_
  refine G_icmpF_ge 30 rfl (by rw [hj]; exact nI_ge (b := 8) (by omega) (by omega)) ⟨42, by decide⟩ dX5_currentGuard_27 ?_
  refine G_aload_n 31 rfl rfl dX5_currentGuard_30 ?_
  refine G_p3 34 rfl hR fl_X5_27 hp dX5_currentGuard_31 ?_
  refine G_aload_n 35 rfl rfl dX5_currentGuard_34 ?_
  refine G_gi 38 rfl hR 5 9 p 329 (σ.1 329 p) fl_X5_112 hp rfl rfl rfl rfl dX5_currentGuard_35 ?_
  refine G_guards 39 rfl hR (p := p) (j := j) hj hp (by omega) dX5_currentGuard_38 ?_
  refine G_goto 43 (by decide) dX5_currentGuard_39 ?_
  refine G_aret rfl (Or.inr ⟨_, rfl⟩) ?_ dX5_currentGuard_43
  exact ⟨rfl, rfl⟩

set_option maxHeartbeats 4000000 in
set_option maxRecDepth 100000 in
theorem c_X5_lookFromFirst {E : Ev} {m : Nat} {σ : Sg} {τ : Tu} {h : Hp} (hR : RR E m σ τ h) {p : Nat} (hp : p < m) {g : Nat} (hg : σ.1 326 p = nI g) (hg8 : g ≤ 8) : Cn E mX5_lookFromFirst (rk 2 0 0) h [.ref (aP E p)] (fun v h' => v = none ∧ RR E m (lkFF σ p) τ h') := by
  refine Cn_of (by decide) rfl (by simp [Value.category]) (Nat.le_of_ble_eq_true rfl) ?_
  refine G_aload_n 1 rfl rfl dX5_lookFromFirst_0 ?_
  refine G_iconst 2 rfl (0) (by decide) dX5_lookFromFirst_1 ?_
  refine G_callV 5 rfl [.int 0] (c_X5_nextOn hR hp hg hg8 0 (by omega)) ok_X5_nextOn ov_X5_nextOn ml_X5_102 (hR.ob (ci := 5) (i := p) (by decide) hp) ⟨by decide, rfl⟩ rfl ⟨by decide, by decide⟩ rfl rfl (Nat.le_of_ble_eq_true rfl) rfl dX5_lookFromFirst_2 ?_
  rintro v h' ⟨rfl, rfl⟩
  rcases hn : fOn (fun j => σ.1 131 (8 * p + j)) (g - 0) 0 with _ | j
  · skip
    refine G_istore_n 6 rfl (by decide) dX5_lookFromFirst_5 ?_
    refine G_iload_n 7 rfl rfl dX5_lookFromFirst_6 ?_
    refine G_iconst 8 rfl (-1) (by decide) dX5_lookFromFirst_7 ?_
    refine G_icmpF_ne 11 rfl rfl ⟨18, by decide⟩ dX5_lookFromFirst_8 ?_
    refine G_aload_n 12 rfl rfl dX5_lookFromFirst_11 ?_
    refine G_bipush 14 rfl (10) (by decide) dX5_lookFromFirst_12 ?_
    refine G_pi 17 rfl hR 5 5 p 325 fl_X5_37 hp rfl ⟨rfl, rfl⟩ rfl rfl dX5_lookFromFirst_14 (fun h hR => ?_)
    refine G_ret rfl ?_ dX5_lookFromFirst_17
    refine ⟨rfl, ?_⟩
    unfold lkFF nxt
    rw [hg, cN_nI (by omega), hn]
    exact hR
  · skip
    have hb := fOn_some hn
    refine G_istore_n 6 rfl (by decide) dX5_lookFromFirst_5 ?_
    refine G_iload_n 7 rfl rfl dX5_lookFromFirst_6 ?_
    refine G_iconst 8 rfl (-1) (by decide) dX5_lookFromFirst_7 ?_
    refine G_icmpT_ne 18 (oI_m1 (by omega)) (by decide) dX5_lookFromFirst_8 ?_
    refine G_aload_n 19 rfl rfl dX5_lookFromFirst_18 ?_
    refine G_iload_n 20 rfl rfl dX5_lookFromFirst_19 ?_
    refine G_callV 23 rfl [.int (oI (some j))] (c_X5_lookAt hR hp (nI j)) ok_X5_lookAt ov_X5_lookAt ml_X5_116 (hR.ob (ci := 5) (i := p) (by decide) hp) ⟨by decide, rfl⟩ rfl ⟨by decide, by decide⟩ rfl rfl (Nat.le_of_ble_eq_true rfl) rfl dX5_lookFromFirst_20 ?_
    rintro v h ⟨rfl, hR⟩
    refine G_ret rfl ?_ dX5_lookFromFirst_23
    refine ⟨rfl, ?_⟩
    unfold lkFF nxt
    rw [hg, cN_nI (by omega), hn]
    exact hR

set_option maxHeartbeats 4000000 in
set_option maxRecDepth 100000 in
theorem c_X5_lookAtNext {E : Ev} {m : Nat} {σ : Sg} {τ : Tu} {h : Hp} (hR : RR E m σ τ h) {p : Nat} (hp : p < m) {g : Nat} (hg : σ.1 326 p = nI g) (hg8 : g ≤ 8) {i : Nat} (hj : σ.1 329 p = nI i) (hi8 : i < 8) : Cn E mX5_lookAtNext (rk 2 0 0) h [.ref (aP E p)] (fun v h' => v = none ∧ RR E m (lkNx σ p) τ h') := by
  refine Cn_of (by decide) rfl (by simp [Value.category]) (Nat.le_of_ble_eq_true rfl) ?_
  refine G_aload_n 1 rfl rfl dX5_lookAtNext_0 ?_
  refine G_aload_n 2 rfl rfl dX5_lookAtNext_1 ?_
  refine G_gi 5 rfl hR 5 9 p 329 (σ.1 329 p) fl_X5_112 hp rfl rfl rfl rfl dX5_lookAtNext_2 ?_
  refine G_iconst 6 rfl (1) (by decide) dX5_lookAtNext_5 ?_
  refine G_iadd 7 rfl dX5_lookAtNext_6 ?_
  rw [show σ.1 329 p + 1 = nI (i + 1) by rw [hj]; exact nI_1 i]
  refine G_callV 10 rfl [.int (nI (i + 1))] (c_X5_nextOn hR hp hg hg8 (i + 1) (by omega)) ok_X5_nextOn ov_X5_nextOn ml_X5_102 (hR.ob (ci := 5) (i := p) (by decide) hp) ⟨by decide, rfl⟩ rfl ⟨by decide, by decide⟩ rfl rfl (Nat.le_of_ble_eq_true rfl) rfl dX5_lookAtNext_7 ?_
  rintro v h' ⟨rfl, rfl⟩
  rcases hn : fOn (fun j => σ.1 131 (8 * p + j)) (g - (i + 1)) (i + 1) with _ | j
  · skip
    refine G_istore_n 11 rfl (by decide) dX5_lookAtNext_10 ?_
    refine G_iload_n 12 rfl rfl dX5_lookAtNext_11 ?_
    refine G_iconst 13 rfl (-1) (by decide) dX5_lookAtNext_12 ?_
    refine G_icmpF_ne 16 rfl rfl ⟨23, by decide⟩ dX5_lookAtNext_13 ?_
    refine G_aload_n 17 rfl rfl dX5_lookAtNext_16 ?_
    refine G_bipush 19 rfl (9) (by decide) dX5_lookAtNext_17 ?_
    refine G_pi 22 rfl hR 5 5 p 325 fl_X5_37 hp rfl ⟨rfl, rfl⟩ rfl rfl dX5_lookAtNext_19 (fun h hR => ?_)
    refine G_ret rfl ?_ dX5_lookAtNext_22
    refine ⟨rfl, ?_⟩
    unfold lkNx nxt
    rw [hg, cN_nI (by omega), hj, cN_nI (by omega), hn]
    exact hR
  · skip
    have hb := fOn_some hn
    refine G_istore_n 11 rfl (by decide) dX5_lookAtNext_10 ?_
    refine G_iload_n 12 rfl rfl dX5_lookAtNext_11 ?_
    refine G_iconst 13 rfl (-1) (by decide) dX5_lookAtNext_12 ?_
    refine G_icmpT_ne 23 (oI_m1 (by omega)) (by decide) dX5_lookAtNext_13 ?_
    refine G_aload_n 24 rfl rfl dX5_lookAtNext_23 ?_
    refine G_iload_n 25 rfl rfl dX5_lookAtNext_24 ?_
    refine G_callV 28 rfl [.int (oI (some j))] (c_X5_lookAt hR hp (nI j)) ok_X5_lookAt ov_X5_lookAt ml_X5_116 (hR.ob (ci := 5) (i := p) (by decide) hp) ⟨by decide, rfl⟩ rfl ⟨by decide, by decide⟩ rfl rfl (Nat.le_of_ble_eq_true rfl) rfl dX5_lookAtNext_25 ?_
    rintro v h ⟨rfl, hR⟩
    refine G_ret rfl ?_ dX5_lookAtNext_28
    refine ⟨rfl, ?_⟩
    unfold lkNx nxt
    rw [hg, cN_nI (by omega), hj, cN_nI (by omega), hn]
    exact hR

set_option maxHeartbeats 4000000 in
set_option maxRecDepth 100000 in
theorem c_X5_firstEntry {E : Ev} {m : Nat} {σ : Sg} {τ : Tu} {h : Hp} (hR : RR E m σ τ h) {p : Nat} (hp : p < m) {w : Nat} (hw : σ.1 336 p = nI w) (hwl : w ≤ (sPb σ p).length) : Cn E mX5_firstEntry (rk 0 0 0) h [.ref (aP E p)] (fun v h' => v = some (va_rf ((fE σ p).map (aE E m))) ∧ h' = h) := by
  refine Cn_of (by decide) rfl (by simp [Value.category]) (Nat.le_of_ble_eq_true rfl) ?_
  have hl8 := (hR.2.2.1.2.2.2.2.2.2.2 p hp).1
  refine G_aload_n 1 rfl rfl dX5_firstEntry_0 ?_
  refine G_gi 4 rfl hR 5 16 p 336 (σ.1 336 p) fl_X5_90 hp rfl rfl rfl rfl dX5_firstEntry_1 ?_
  refine G_ifF_lt 7 rfl (by rw [hw]; exact nI_pos (by omega)) ⟨42, by decide⟩ dX5_firstEntry_4 ?_
  refine G_aload_n 8 rfl rfl dX5_firstEntry_7 ?_
  refine G_gi 11 rfl hR 5 16 p 336 (σ.1 336 p) fl_X5_90 hp rfl rfl rfl rfl dX5_firstEntry_8 ?_
  refine G_aload_n 12 rfl rfl dX5_firstEntry_11 ?_
  refine G_p15 15 rfl hR fl_X5_87 hp dX5_firstEntry_12 ?_
  by_cases hlt : w < (sPb σ p).length
  · skip
    obtain ⟨n, hn⟩ : ∃ n, (sPb σ p)[w]? = some n := ⟨_, List.getElem?_eq_getElem hlt⟩
    refine G_icmpF_ge 18 rfl (by rw [hw]; exact nI_ge (by omega) (by omega)) ⟨42, by decide⟩ dX5_firstEntry_15 ?_
    refine G_aload_n 19 rfl rfl dX5_firstEntry_18 ?_
    refine G_gi 22 rfl hR 5 16 p 336 (σ.1 336 p) fl_X5_90 hp rfl rfl rfl rfl dX5_firstEntry_19 ?_
    refine G_aload_n 23 rfl rfl dX5_firstEntry_22 ?_
    refine G_p4 26 rfl hR fl_X5_33 hp dX5_firstEntry_23 ?_
    refine G_lenOA 27 rfl hR hp dX5_firstEntry_26 ?_
    refine G_icmpF_ge 30 rfl (by rw [hw]; exact nI_ge (b := 8) (by omega) (by omega)) ⟨42, by decide⟩ dX5_firstEntry_27 ?_
    refine G_aload_n 31 rfl rfl dX5_firstEntry_30 ?_
    refine G_p4 34 rfl hR fl_X5_33 hp dX5_firstEntry_31 ?_
    refine G_aload_n 35 rfl rfl dX5_firstEntry_34 ?_
    refine G_gi 38 rfl hR 5 16 p 336 (σ.1 336 p) fl_X5_90 hp rfl rfl rfl rfl dX5_firstEntry_35 ?_
    refine G_oAt 39 rfl hR (j := w) hw hp hn dX5_firstEntry_38 ?_
    refine G_goto 43 (by decide) dX5_firstEntry_39 ?_
    refine G_aret rfl (Or.inr ⟨_, rfl⟩) ?_ dX5_firstEntry_43
    exact ⟨by unfold fE; rw [hw, cN_nI (by omega), hn]; rfl, rfl⟩
  · skip
    refine G_icmpT_ge 42 (by rw [hw]; exact nI_le (by omega) (by omega)) (by decide) dX5_firstEntry_15 ?_
    refine G_null 43 rfl dX5_firstEntry_42 ?_
    refine G_aret rfl (Or.inl rfl) ?_ dX5_firstEntry_43
    exact ⟨by unfold fE; rw [hw, cN_nI (by omega), List.getElem?_eq_none (by omega)]; rfl, rfl⟩

set_option maxHeartbeats 4000000 in
set_option maxRecDepth 100000 in
theorem c_X5_beginWithdraw {E : Ev} {m : Nat} {σ : Sg} {τ : Tu} {h : Hp} (hR : RR E m σ τ h) {p : Nat} (hp : p < m) {w : Nat} (hw : σ.1 336 p = nI w) (hwl : w ≤ (sPb σ p).length) : Cn E mX5_beginWithdraw (rk 1 0 0) h [.ref (aP E p)] (fun v h' => v = none ∧ RR E m (bWd σ p) τ h') := by
  refine Cn_of (by decide) rfl (by simp [Value.category]) (Nat.le_of_ble_eq_true rfl) ?_
  refine G_aload_n 1 rfl rfl dX5_beginWithdraw_0 ?_
  refine G_aload_n 2 rfl rfl dX5_beginWithdraw_1 ?_
  refine G_callV 5 rfl [] (c_X5_firstEntry hR hp hw hwl) ok_X5_firstEntry ov_X5_firstEntry ml_X5_132 (hR.ob (ci := 5) (i := p) (by decide) hp) ⟨by decide, rfl⟩ rfl ⟨by decide, by decide⟩ rfl rfl (Nat.le_of_ble_eq_true rfl) rfl dX5_beginWithdraw_2 ?_
  rintro v h' ⟨rfl, rfl⟩
  rcases hn : fE σ p with _ | n
  · skip
    refine G_ifnonnullN 8 rfl dX5_beginWithdraw_5 ?_
    refine G_bipush 10 rfl (12) (by decide) dX5_beginWithdraw_8 ?_
    refine G_goto 15 (by decide) dX5_beginWithdraw_10 ?_
    refine G_pi 18 rfl hR 5 5 p 325 fl_X5_37 hp rfl ⟨rfl, rfl⟩ rfl rfl dX5_beginWithdraw_15 (fun h hR => ?_)
    refine G_ret rfl ?_ dX5_beginWithdraw_18
    refine ⟨rfl, ?_⟩
    unfold bWd
    rw [hn]
    exact hR
  · skip
    refine G_ifnonnull 13 (by decide) dX5_beginWithdraw_5 ?_
    refine G_bipush 15 rfl (11) (by decide) dX5_beginWithdraw_13 ?_
    refine G_pi 18 rfl hR 5 5 p 325 fl_X5_37 hp rfl ⟨rfl, rfl⟩ rfl rfl dX5_beginWithdraw_15 (fun h hR => ?_)
    refine G_ret rfl ?_ dX5_beginWithdraw_18
    refine ⟨rfl, ?_⟩
    unfold bWd
    rw [hn]
    exact hR

set_option maxHeartbeats 4000000 in
set_option maxRecDepth 100000 in
theorem c_X5_wakeIfSettled {E : Ev} {m : Nat} {σ : Sg} {τ : Tu} {h : Hp} (hR : RR E m σ τ h) {p : Nat} (hp : p < m) {w : Nat} (hw : σ.1 336 p = nI w) (hwl : w ≤ (sPb σ p).length) : Cn E mX5_wakeIfSettled (rk 2 0 0) h [.ref (aP E p)] (fun v h' => v = none ∧ ((stl σ p ∧ RR E m (bWd σ p) τ h') ∨ (¬ stl σ p ∧ RR E m σ τ h'))) := by
  refine Cn_of (by decide) rfl (by simp [Value.category]) (Nat.le_of_ble_eq_true rfl) ?_
  refine G_aload_n 1 rfl rfl dX5_wakeIfSettled_0 ?_
  refine G_p1 4 rfl hR fl_X5_12 hp dX5_wakeIfSettled_1 ?_
  refine G_callV 7 rfl [] (c_X6_isSettled hR hp) ok_X6_isSettled ov_X6_isSettled ml_X5_122 (hR.ob (ci := 6) (i := p) (by decide) hp) ⟨by decide, rfl⟩ rfl ⟨by decide, by decide⟩ rfl rfl (Nat.le_of_ble_eq_true rfl) rfl dX5_wakeIfSettled_4 ?_
  rintro v h' ⟨⟨hs, rfl⟩ | ⟨hs, rfl⟩, rfl⟩
  · skip
    refine G_ifF_eq 10 rfl (by decide) ⟨14, by decide⟩ dX5_wakeIfSettled_7 ?_
    refine G_aload_n 11 rfl rfl dX5_wakeIfSettled_10 ?_
    refine G_callV 14 rfl [] (c_X5_beginWithdraw hR hp hw hwl) ok_X5_beginWithdraw ov_X5_beginWithdraw ml_X5_126 (hR.ob (ci := 5) (i := p) (by decide) hp) ⟨by decide, rfl⟩ rfl ⟨by decide, by decide⟩ rfl rfl (Nat.le_of_ble_eq_true rfl) rfl dX5_wakeIfSettled_11 ?_
    rintro v h ⟨rfl, hR⟩
    refine G_ret rfl ?_ dX5_wakeIfSettled_14
    exact ⟨rfl, Or.inl ⟨hs, hR⟩⟩
  · skip
    refine G_ifT_eq 14 (by decide) (by decide) dX5_wakeIfSettled_7 ?_
    refine G_ret rfl ?_ dX5_wakeIfSettled_14
    exact ⟨rfl, Or.inr ⟨hs, hR⟩⟩

set_option maxHeartbeats 4000000 in
set_option maxRecDepth 100000 in
theorem c_X5_endLooking {E : Ev} {m : Nat} {σ : Sg} {τ : Tu} {h : Hp} (hR : RR E m σ τ h) {p : Nat} (hp : p < m) {g : Nat} (hg : σ.1 326 p = nI g) (hg8 : g ≤ 8) {w : Nat} (hw : σ.1 336 p = nI w) (hwl : w ≤ (sPb σ p).length) : Cn E mX5_endLooking (rk 3 0 0) h [.ref (aP E p)] (fun v h' => v = none ∧ ((stl σ p ∧ RR E m (bWd σ p) τ h') ∨ (¬ stl σ p ∧ ¬ σ.1 332 p = 0 ∧ RR E m (lkFF (up σ 332 p 0) p) τ h') ∨ (¬ stl σ p ∧ σ.1 332 p = 0 ∧ RR E m (up σ 325 p 10) τ h'))) := by
  refine Cn_of (by decide) rfl (by simp [Value.category]) (Nat.le_of_ble_eq_true rfl) ?_
  refine G_aload_n 1 rfl rfl dX5_endLooking_0 ?_
  refine G_p1 4 rfl hR fl_X5_12 hp dX5_endLooking_1 ?_
  refine G_callV 7 rfl [] (c_X6_isSettled hR hp) ok_X6_isSettled ov_X6_isSettled ml_X5_122 (hR.ob (ci := 6) (i := p) (by decide) hp) ⟨by decide, rfl⟩ rfl ⟨by decide, by decide⟩ rfl rfl (Nat.le_of_ble_eq_true rfl) rfl dX5_endLooking_4 ?_
  rintro v h' ⟨⟨hs, rfl⟩ | ⟨hs, rfl⟩, rfl⟩
  · skip
    refine G_ifF_eq 10 rfl (by decide) ⟨17, by decide⟩ dX5_endLooking_7 ?_
    refine G_aload_n 11 rfl rfl dX5_endLooking_10 ?_
    refine G_callV 14 rfl [] (c_X5_beginWithdraw hR hp hw hwl) ok_X5_beginWithdraw ov_X5_beginWithdraw ml_X5_126 (hR.ob (ci := 5) (i := p) (by decide) hp) ⟨by decide, rfl⟩ rfl ⟨by decide, by decide⟩ rfl rfl (Nat.le_of_ble_eq_true rfl) rfl dX5_endLooking_11 ?_
    rintro v h ⟨rfl, hR⟩
    refine G_goto 42 (by decide) dX5_endLooking_14 ?_
    refine G_ret rfl ?_ dX5_endLooking_42
    exact ⟨rfl, Or.inl ⟨hs, hR⟩⟩
  · skip
    refine G_ifT_eq 17 (by decide) (by decide) dX5_endLooking_7 ?_
    refine G_aload_n 18 rfl rfl dX5_endLooking_17 ?_
    refine G_gi 21 rfl hR 5 12 p 332 (σ.1 332 p) fl_X5_74 hp rfl rfl rfl rfl dX5_endLooking_18 ?_
    refine G_if_eq 36 24 rfl (by decide) dX5_endLooking_21 (fun c21 => ?_) (fun c21 => ?_)
    · skip
      refine G_aload_n 37 rfl rfl dX5_endLooking_36 ?_
      refine G_bipush 39 rfl (10) (by decide) dX5_endLooking_37 ?_
      refine G_pi 42 rfl hR 5 5 p 325 fl_X5_37 hp rfl ⟨rfl, rfl⟩ rfl rfl dX5_endLooking_39 (fun h hR => ?_)
      refine G_ret rfl ?_ dX5_endLooking_42
      exact ⟨rfl, Or.inr (Or.inr ⟨hs, c21, hR⟩)⟩
    · skip
      refine G_aload_n 25 rfl rfl dX5_endLooking_24 ?_
      refine G_iconst 26 rfl (0) (by decide) dX5_endLooking_25 ?_
      refine G_pz 29 rfl hR 5 12 p 332 fl_X5_74 hp rfl ⟨rfl, rfl⟩ (by decide) rfl rfl dX5_endLooking_26 (fun h hR => ?_)
      refine G_aload_n 30 rfl rfl dX5_endLooking_29 ?_
      refine G_callV 33 rfl [] (c_X5_lookFromFirst hR hp hg hg8) ok_X5_lookFromFirst ov_X5_lookFromFirst ml_X5_129 (hR.ob (ci := 5) (i := p) (by decide) hp) ⟨by decide, rfl⟩ rfl ⟨by decide, by decide⟩ rfl rfl (Nat.le_of_ble_eq_true rfl) rfl dX5_endLooking_30 ?_
      rintro v h ⟨rfl, hR⟩
      refine G_goto 42 (by decide) dX5_endLooking_33 ?_
      refine G_ret rfl ?_ dX5_endLooking_42
      exact ⟨rfl, Or.inr (Or.inl ⟨hs, c21, hR⟩)⟩

set_option maxHeartbeats 4000000 in
set_option maxRecDepth 100000 in
theorem c_X5_addGuard {E : Ev} {m : Nat} {σ : Sg} {τ : Tu} {h : Hp} (hR : RR E m σ τ h) {p : Nat} (hp : p < m) {g : Nat} (hg : σ.1 326 p = nI g) (hg8 : g ≤ 8) (a b c d : Int32) (hd01 : d = 0 ∨ d = 1) : Cn E mX5_addGuard (rk 0 0 0) h [.ref (aP E p), .int a, .int b, .int c, .int d] (fun v h' => (g < 8 ∧ v = some (.int 1) ∧ RR E m (up (up (up (up (up σ 128 (8 * p + g) a) 129 (8 * p + g) b) 130 (8 * p + g) c) 131 (8 * p + g) d) 326 p (σ.1 326 p + 1)) τ h') ∨ (¬ g < 8 ∧ v = some (.int 0) ∧ RR E m σ τ h')) := by
  refine Cn_of (by decide) rfl (by simp [Value.category]) (Nat.le_of_ble_eq_true rfl) ?_
  refine G_aload_n 1 rfl rfl dX5_addGuard_0 ?_
  refine G_gi 4 rfl hR 5 6 p 326 (σ.1 326 p) fl_X5_48 hp rfl rfl rfl rfl dX5_addGuard_1 ?_
  refine G_aload_n 5 rfl rfl dX5_addGuard_4 ?_
  refine G_p3 8 rfl hR fl_X5_27 hp dX5_addGuard_5 ?_
  refine G_lenGA 9 rfl hR hp dX5_addGuard_8 ?_
  by_cases hlt : g < 8
  · skip
    refine G_icmpT_lt 14 (by rw [hg]; exact nI_lt (b := 8) hlt (by omega)) (by decide) dX5_addGuard_9 ?_
    refine G_aload_n 15 rfl rfl dX5_addGuard_14 ?_
    refine G_p3 18 rfl hR fl_X5_27 hp dX5_addGuard_15 ?_
    refine G_aload_n 19 rfl rfl dX5_addGuard_18 ?_
    refine G_gi 22 rfl hR 5 6 p 326 (σ.1 326 p) fl_X5_48 hp rfl rfl rfl rfl dX5_addGuard_19 ?_
    refine G_guards 23 rfl hR (p := p) (j := g) hg hp hlt dX5_addGuard_22 ?_
    refine G_astore 25 rfl (by decide) dX5_addGuard_23 ?_
    refine G_aload 27 rfl rfl dX5_addGuard_25 ?_
    refine G_iload_n 28 rfl rfl dX5_addGuard_27 ?_
    refine G_pi 31 rfl hR 2 0 (8 * p + g) 128 fl_X5_54 (gvd hp hlt) rfl ⟨rfl, rfl⟩ rfl rfl dX5_addGuard_28 (fun h hR => ?_)
    refine G_aload 33 rfl rfl dX5_addGuard_31 ?_
    refine G_iload_n 34 rfl rfl dX5_addGuard_33 ?_
    refine G_pi 37 rfl hR 2 1 (8 * p + g) 129 fl_X5_57 (gvd hp hlt) rfl ⟨rfl, rfl⟩ rfl rfl dX5_addGuard_34 (fun h hR => ?_)
    refine G_aload 39 rfl rfl dX5_addGuard_37 ?_
    refine G_iload_n 40 rfl rfl dX5_addGuard_39 ?_
    refine G_pi 43 rfl hR 2 2 (8 * p + g) 130 fl_X5_60 (gvd hp hlt) rfl ⟨rfl, rfl⟩ rfl rfl dX5_addGuard_40 (fun h hR => ?_)
    refine G_aload 45 rfl rfl dX5_addGuard_43 ?_
    refine G_iload 47 rfl rfl dX5_addGuard_45 ?_
    refine G_pz 50 rfl hR 2 3 (8 * p + g) 131 fl_X5_63 (gvd hp hlt) rfl ⟨rfl, rfl⟩ hd01 rfl rfl dX5_addGuard_47 (fun h hR => ?_)
    refine G_aload_n 51 rfl rfl dX5_addGuard_50 ?_
    refine G_dup 52 rfl rfl dX5_addGuard_51 ?_
    refine G_gi 55 rfl hR 5 6 p 326 (σ.1 326 p) fl_X5_48 hp rfl rfl rfl rfl dX5_addGuard_52 ?_
    refine G_iconst 56 rfl (1) (by decide) dX5_addGuard_55 ?_
    refine G_iadd 57 rfl dX5_addGuard_56 ?_
    refine G_pi 60 rfl hR 5 6 p 326 fl_X5_48 hp rfl ⟨rfl, rfl⟩ rfl rfl dX5_addGuard_57 (fun h hR => ?_)
    refine G_iconst 61 rfl (1) (by decide) dX5_addGuard_60 ?_
    refine G_iret (ty := .boolean) rfl (by decide) ?_ dX5_addGuard_61
    exact Or.inl ⟨hlt, rfl, hR⟩
  · skip
    refine G_icmpF_lt 12 rfl (by rw [hg]; exact nI_nlt (b := 8) (by omega) (by omega)) ⟨14, by decide⟩ dX5_addGuard_9 ?_
    refine G_iconst 13 rfl (0) (by decide) dX5_addGuard_12 ?_
    refine G_iret (ty := .boolean) rfl (by decide) ?_ dX5_addGuard_13
    exact Or.inr ⟨hlt, rfl, hR⟩
end
section
theorem e8 (z k : Nat) : nI z * 8 + nI k = nI (z * 8 + k) := by
  rw [show (8 : Int32) = nI 8 from rfl, pk_mul, nI_add]
set_option maxHeartbeats 4000000 in
set_option maxRecDepth 100000 in
theorem c_X7_procAt {E : Ev} {m : Nat} {σ : Sg} {τ : Tu} {h : Hp} (hR : RR E m σ τ h) (i : Int32) : Cn E mX7_procAt (rk 0 0 0) h [.ref (aX E), .int i] (fun v h' => ((∃ p, p < m ∧ i = nI p ∧ v = some (.ref (aP E p))) ∨ ((i < 0 ∨ nI m ≤ i) ∧ v = some .null)) ∧ h' = h) := by
  refine Cn_of (by decide) rfl (by simp [Value.category]) (Nat.le_of_ble_eq_true rfl) ?_
  have hm := hR.1.1
  refine G_iload_n 1 rfl rfl dX7_procAt_0 ?_
  refine G_if_lt 22 4 rfl (by decide) dX7_procAt_1 (fun c1 => ?_) (fun c1 => ?_)
  · skip
    refine G_null 23 rfl dX7_procAt_22 ?_
    refine G_aret rfl (Or.inl rfl) ?_ dX7_procAt_23
    exact ⟨Or.inr ⟨by first | exact Or.inl c1 | exact Or.inr c10, rfl⟩, rfl⟩
  · skip
    refine G_iload_n 5 rfl rfl dX7_procAt_4 ?_
    refine G_aload_n 6 rfl rfl dX7_procAt_5 ?_
    refine G_x0 9 rfl hR fl_X7_20 dX7_procAt_6 ?_
    refine G_lenPA 10 rfl hR dX7_procAt_9 ?_
    refine G_icmp_ge 22 13 rfl (by decide) dX7_procAt_10 (fun c10 => ?_) (fun c10 => ?_)
    · skip
      refine G_null 23 rfl dX7_procAt_22 ?_
      refine G_aret rfl (Or.inl rfl) ?_ dX7_procAt_23
      exact ⟨Or.inr ⟨by first | exact Or.inl c1 | exact Or.inr c10, rfl⟩, rfl⟩
    · skip
      refine G_aload_n 14 rfl rfl dX7_procAt_13 ?_
      refine G_x0 17 rfl hR fl_X7_20 dX7_procAt_14 ?_
      refine G_iload_n 18 rfl rfl dX7_procAt_17 ?_
      obtain ⟨p, hp, e⟩ := ix_of (by omega) c1 c10
      refine G_procs 19 rfl hR (p := p) e hp dX7_procAt_18 ?_
      refine G_goto 23 (by decide) dX7_procAt_19 ?_
      refine G_aret rfl (Or.inr ⟨_, rfl⟩) ?_ dX7_procAt_23
      exact ⟨Or.inl ⟨p, hp, e, rfl⟩, rfl⟩

set_option maxHeartbeats 4000000 in
set_option maxRecDepth 100000 in
theorem c_X7_listAt {E : Ev} {m : Nat} {σ : Sg} {τ : Tu} {h : Hp} (hR : RR E m σ τ h) (i : Int32) : Cn E mX7_listAt (rk 0 0 0) h [.ref (aX E), .int i] (fun v h' => ((∃ c, c < 8 ∧ i = nI c ∧ v = some (.ref (aLs E m c))) ∨ ((i < 0 ∨ nI 8 ≤ i) ∧ v = some .null)) ∧ h' = h) := by
  refine Cn_of (by decide) rfl (by simp [Value.category]) (Nat.le_of_ble_eq_true rfl) ?_
  refine G_iload_n 1 rfl rfl dX7_listAt_0 ?_
  refine G_if_lt 22 4 rfl (by decide) dX7_listAt_1 (fun c1 => ?_) (fun c1 => ?_)
  · skip
    refine G_null 23 rfl dX7_listAt_22 ?_
    refine G_aret rfl (Or.inl rfl) ?_ dX7_listAt_23
    exact ⟨Or.inr ⟨by first | exact Or.inl c1 | exact Or.inr c10, rfl⟩, rfl⟩
  · skip
    refine G_iload_n 5 rfl rfl dX7_listAt_4 ?_
    refine G_aload_n 6 rfl rfl dX7_listAt_5 ?_
    refine G_x1 9 rfl hR fl_X7_29 dX7_listAt_6 ?_
    refine G_lenLL 10 rfl hR dX7_listAt_9 ?_
    refine G_icmp_ge 22 13 rfl (by decide) dX7_listAt_10 (fun c10 => ?_) (fun c10 => ?_)
    · skip
      refine G_null 23 rfl dX7_listAt_22 ?_
      refine G_aret rfl (Or.inl rfl) ?_ dX7_listAt_23
      exact ⟨Or.inr ⟨by first | exact Or.inl c1 | exact Or.inr c10, rfl⟩, rfl⟩
    · skip
      refine G_aload_n 14 rfl rfl dX7_listAt_13 ?_
      refine G_x1 17 rfl hR fl_X7_29 dX7_listAt_14 ?_
      refine G_iload_n 18 rfl rfl dX7_listAt_17 ?_
      obtain ⟨c, hc, e⟩ := ix_of (n := 8) (by omega) c1 c10
      refine G_lists 19 rfl hR (c := c) e hc dX7_listAt_18 ?_
      refine G_goto 23 (by decide) dX7_listAt_19 ?_
      refine G_aret rfl (Or.inr ⟨_, rfl⟩) ?_ dX7_listAt_23
      exact ⟨Or.inl ⟨c, hc, e, rfl⟩, rfl⟩

set_option maxHeartbeats 4000000 in
set_option maxRecDepth 100000 in
theorem c_X7_procIn {E : Ev} {m : Nat} {σ : Sg} {τ : Tu} {h : Hp} (hR : RR E m σ τ h) (i k : Int32) : Cn E mX7_procIn (rk 1 0 0) h [.ref (aX E), .int i, .int k] (fun v h' => ((∃ p, p < m ∧ i = nI p ∧ σ.1 325 p = k ∧ v = some (.ref (aP E p))) ∨ ((∀ p, p < m → i = nI p → ¬ σ.1 325 p = k) ∧ v = some .null)) ∧ h' = h) := by
  refine Cn_of (by decide) rfl (by simp [Value.category]) (Nat.le_of_ble_eq_true rfl) ?_
  have hm := hR.1.1
  refine G_aload_n 1 rfl rfl dX7_procIn_0 ?_
  refine G_iload_n 2 rfl rfl dX7_procIn_1 ?_
  refine G_callV 5 rfl [.int i] (c_X7_procAt hR i) ok_X7_procAt ov_X7_procAt ml_X7_78 (hR.ob (ci := 7) (i := 0) (by decide) rfl) ⟨by decide, rfl⟩ rfl ⟨by decide, by decide⟩ rfl rfl (Nat.le_of_ble_eq_true rfl) rfl dX7_procIn_2 ?_
  rintro v h' ⟨⟨p, hp, e, rfl⟩ | ⟨e, rfl⟩, rfl⟩
  · skip
    refine G_astore_n 6 rfl (by decide) dX7_procIn_5 ?_
    refine G_aload_n 7 rfl rfl dX7_procIn_6 ?_
    refine G_ifnull 10 rfl dX7_procIn_7 ?_
    refine G_aload_n 11 rfl rfl dX7_procIn_10 ?_
    refine G_gi 14 rfl hR 5 5 p 325 (σ.1 325 p) fl_X7_48 hp rfl rfl rfl rfl dX7_procIn_11 ?_
    refine G_iload_n 15 rfl rfl dX7_procIn_14 ?_
    refine G_icmp_ne 22 18 rfl (by decide) dX7_procIn_15 (fun c15 => ?_) (fun c15 => ?_)
    · skip
      refine G_null 23 rfl dX7_procIn_22 ?_
      refine G_aret rfl (Or.inl rfl) ?_ dX7_procIn_23
      exact ⟨Or.inr ⟨fun q hq e2 => by rw [← (nI_eq (by omega) (by omega)).mp (e.symm.trans e2)]; exact c15, rfl⟩, rfl⟩
    · skip
      refine G_aload_n 19 rfl rfl dX7_procIn_18 ?_
      refine G_goto 23 (by decide) dX7_procIn_19 ?_
      refine G_aret rfl (Or.inr ⟨_, rfl⟩) ?_ dX7_procIn_23
      exact ⟨Or.inl ⟨p, hp, e, c15, rfl⟩, rfl⟩
  · skip
    refine G_astore_nN 6 rfl (by decide) dX7_procIn_5 ?_
    refine G_aload_nN 7 rfl rfl dX7_procIn_6 ?_
    refine G_ifnullN 22 (by decide) dX7_procIn_7 ?_
    refine G_null 23 rfl dX7_procIn_22 ?_
    refine G_aret rfl (Or.inl rfl) ?_ dX7_procIn_23
    exact ⟨Or.inr ⟨fun q hq e2 => absurd e (by rw [e2]; exact fun z => z.elim (nI_pos (by omega)) (nI_ge hq (by omega))), rfl⟩, rfl⟩

set_option maxHeartbeats 4000000 in
set_option maxRecDepth 100000 in
theorem c_X7_versionSought {E : Ev} {m : Nat} {σ : Sg} {τ : Tu} {h : Hp} (hR : RR E m σ τ h) {p : Nat} (hp : p < m) {t : Nat} (ht : t < m) {n : Nat} (hn : 1 ≤ n ∧ n ≤ sNp σ) : Cn E mX7_versionSought (rk 0 0 0) h [.ref (aP E p), .ref (aP E t), .ref (aE E m n)] (fun v h' => v = some (.int (vs σ p t n)) ∧ h' = h) := by
  refine Cn_of (by decide) rfl (by simp [Value.category]) (Nat.le_of_ble_eq_true rfl) ?_
  refine G_aload_n 1 rfl rfl dX7_versionSought_0 ?_
  refine G_aload_n 2 rfl rfl dX7_versionSought_1 ?_
  refine G_acmp_ne 15 5 rfl (by decide) dX7_versionSought_2 (fun c2 => ?_) (fun c2 => ?_)
  · skip
    refine G_aload_n 16 rfl rfl dX7_versionSought_15 ?_
    refine G_gi 19 rfl hR 0 1 n 1 (σ.1 1 n) fl_X7_323 hn rfl rfl rfl rfl dX7_versionSought_16 ?_
    refine G_iret (ty := .int) rfl rfl ?_ dX7_versionSought_19
    exact ⟨by unfold vs; first | rw [if_neg (fun q => c2 (congrArg (aP E) q))] | rw [if_pos (aP_inj c2)], rfl⟩
  · skip
    refine G_aload_n 6 rfl rfl dX7_versionSought_5 ?_
    refine G_p1 9 rfl hR fl_X7_63 hp dX7_versionSought_6 ?_
    refine G_gi 12 rfl hR 6 1 p 385 (σ.1 385 p) fl_X7_67 hp rfl rfl rfl rfl dX7_versionSought_9 ?_
    refine G_goto 19 (by decide) dX7_versionSought_12 ?_
    refine G_iret (ty := .int) rfl rfl ?_ dX7_versionSought_19
    exact ⟨by unfold vs; first | rw [if_neg (fun q => c2 (congrArg (aP E) q))] | rw [if_pos (aP_inj c2)], rfl⟩

set_option maxHeartbeats 4000000 in
set_option maxRecDepth 100000 in
theorem c_X7_noteDouble {E : Ev} {m : Nat} {σ : Sg} {τ : Tu} {h : Hp} (hR : RR E m σ τ h) {p : Nat} (hp : p < m) : Cn E mX7_noteDouble (rk 0 0 0) h [.ref (aX E), .ref (aP E p)] (fun v h' => v = none ∧ RR E m (ndb σ p) τ h') := by
  refine Cn_of (by decide) rfl (by simp [Value.category]) (Nat.le_of_ble_eq_true rfl) ?_
  refine G_aload_n 1 rfl rfl dX7_noteDouble_0 ?_
  refine G_gi 4 rfl hR 5 17 p 337 (σ.1 337 p) fl_X7_328 hp rfl rfl rfl rfl dX7_noteDouble_1 ?_
  refine G_iconst 5 rfl (1) (by decide) dX7_noteDouble_4 ?_
  refine G_icmp_gt 23 8 rfl (by decide) dX7_noteDouble_5 (fun c5 => ?_) (fun c5 => ?_)
  · skip
    refine G_iconst 24 rfl (1) (by decide) dX7_noteDouble_23 ?_
    refine G_goto 28 (by decide) dX7_noteDouble_24 ?_
    refine G_istore_n 29 rfl (by decide) dX7_noteDouble_28 ?_
    refine G_iload_n 30 rfl rfl dX7_noteDouble_29 ?_
    refine G_ifF_eq 33 rfl (by decide) ⟨55, by decide⟩ dX7_noteDouble_30 ?_
    refine G_aload_n 34 rfl rfl dX7_noteDouble_33 ?_
    refine G_gi 37 rfl hR 5 19 p 339 (σ.1 339 p) fl_X7_331 hp rfl rfl rfl rfl dX7_noteDouble_34 ?_
    refine G_if_ne 55 40 rfl (by decide) dX7_noteDouble_37 (fun c37 => ?_) (fun c37 => ?_)
    · skip
      refine G_ret rfl ?_ dX7_noteDouble_55
      refine ⟨rfl, ?_⟩
      unfold ndb
      rw [if_neg (by first | exact fun q => c37 q.2 | exact fun q => q.1.elim c5 (fun z => z.2 c20) | exact fun q => q.1.elim c5 (fun z => c13 z.1))]
      exact hR
    · skip
      refine G_aload_n 41 rfl rfl dX7_noteDouble_40 ?_
      refine G_iconst 42 rfl (1) (by decide) dX7_noteDouble_41 ?_
      refine G_pz 45 rfl hR 5 19 p 339 fl_X7_331 hp rfl ⟨rfl, rfl⟩ (by decide) rfl rfl dX7_noteDouble_42 (fun h hR => ?_)
      refine G_aload_n 46 rfl rfl dX7_noteDouble_45 ?_
      refine G_dup 47 rfl rfl dX7_noteDouble_46 ?_
      refine G_gi 50 rfl hR 7 8 0 456 (σ.1 456 0) fl_X7_134 rfl rfl rfl rfl rfl dX7_noteDouble_47 ?_
      refine G_iconst 51 rfl (1) (by decide) dX7_noteDouble_50 ?_
      refine G_iadd 52 rfl dX7_noteDouble_51 ?_
      refine G_pi 55 rfl hR 7 8 0 456 fl_X7_134 rfl rfl ⟨rfl, rfl⟩ rfl rfl dX7_noteDouble_52 (fun h hR => ?_)
      refine G_ret rfl ?_ dX7_noteDouble_55
      refine ⟨rfl, ?_⟩
      unfold ndb
      rw [if_pos (by simp_all)]
      exact hR
  · skip
    refine G_aload_n 9 rfl rfl dX7_noteDouble_8 ?_
    refine G_gi 12 rfl hR 5 17 p 337 (σ.1 337 p) fl_X7_328 hp rfl rfl rfl rfl dX7_noteDouble_9 ?_
    refine G_iconst 13 rfl (1) (by decide) dX7_noteDouble_12 ?_
    refine G_icmp_ne 27 16 rfl (by decide) dX7_noteDouble_13 (fun c13 => ?_) (fun c13 => ?_)
    · skip
      refine G_iconst 28 rfl (0) (by decide) dX7_noteDouble_27 ?_
      refine G_istore_n 29 rfl (by decide) dX7_noteDouble_28 ?_
      refine G_iload_n 30 rfl rfl dX7_noteDouble_29 ?_
      refine G_ifT_eq 55 (by decide) (by decide) dX7_noteDouble_30 ?_
      refine G_ret rfl ?_ dX7_noteDouble_55
      refine ⟨rfl, ?_⟩
      unfold ndb
      rw [if_neg (by first | exact fun q => c37 q.2 | exact fun q => q.1.elim c5 (fun z => z.2 c20) | exact fun q => q.1.elim c5 (fun z => c13 z.1))]
      exact hR
    · skip
      refine G_aload_n 17 rfl rfl dX7_noteDouble_16 ?_
      refine G_gi 20 rfl hR 5 18 p 338 (σ.1 338 p) fl_X7_229 hp rfl rfl rfl rfl dX7_noteDouble_17 ?_
      refine G_if_eq 27 23 rfl (by decide) dX7_noteDouble_20 (fun c20 => ?_) (fun c20 => ?_)
      · skip
        refine G_iconst 28 rfl (0) (by decide) dX7_noteDouble_27 ?_
        refine G_istore_n 29 rfl (by decide) dX7_noteDouble_28 ?_
        refine G_iload_n 30 rfl rfl dX7_noteDouble_29 ?_
        refine G_ifT_eq 55 (by decide) (by decide) dX7_noteDouble_30 ?_
        refine G_ret rfl ?_ dX7_noteDouble_55
        refine ⟨rfl, ?_⟩
        unfold ndb
        rw [if_neg (by first | exact fun q => c37 q.2 | exact fun q => q.1.elim c5 (fun z => z.2 c20) | exact fun q => q.1.elim c5 (fun z => c13 z.1))]
        exact hR
      · skip
        refine G_iconst 24 rfl (1) (by decide) dX7_noteDouble_23 ?_
        refine G_goto 28 (by decide) dX7_noteDouble_24 ?_
        refine G_istore_n 29 rfl (by decide) dX7_noteDouble_28 ?_
        refine G_iload_n 30 rfl rfl dX7_noteDouble_29 ?_
        refine G_ifF_eq 33 rfl (by decide) ⟨55, by decide⟩ dX7_noteDouble_30 ?_
        refine G_aload_n 34 rfl rfl dX7_noteDouble_33 ?_
        refine G_gi 37 rfl hR 5 19 p 339 (σ.1 339 p) fl_X7_331 hp rfl rfl rfl rfl dX7_noteDouble_34 ?_
        refine G_if_ne 55 40 rfl (by decide) dX7_noteDouble_37 (fun c37 => ?_) (fun c37 => ?_)
        · skip
          refine G_ret rfl ?_ dX7_noteDouble_55
          refine ⟨rfl, ?_⟩
          unfold ndb
          rw [if_neg (by first | exact fun q => c37 q.2 | exact fun q => q.1.elim c5 (fun z => z.2 c20) | exact fun q => q.1.elim c5 (fun z => c13 z.1))]
          exact hR
        · skip
          refine G_aload_n 41 rfl rfl dX7_noteDouble_40 ?_
          refine G_iconst 42 rfl (1) (by decide) dX7_noteDouble_41 ?_
          refine G_pz 45 rfl hR 5 19 p 339 fl_X7_331 hp rfl ⟨rfl, rfl⟩ (by decide) rfl rfl dX7_noteDouble_42 (fun h hR => ?_)
          refine G_aload_n 46 rfl rfl dX7_noteDouble_45 ?_
          refine G_dup 47 rfl rfl dX7_noteDouble_46 ?_
          refine G_gi 50 rfl hR 7 8 0 456 (σ.1 456 0) fl_X7_134 rfl rfl rfl rfl rfl dX7_noteDouble_47 ?_
          refine G_iconst 51 rfl (1) (by decide) dX7_noteDouble_50 ?_
          refine G_iadd 52 rfl dX7_noteDouble_51 ?_
          refine G_pi 55 rfl hR 7 8 0 456 fl_X7_134 rfl rfl ⟨rfl, rfl⟩ rfl rfl dX7_noteDouble_52 (fun h hR => ?_)
          refine G_ret rfl ?_ dX7_noteDouble_55
          refine ⟨rfl, ?_⟩
          unfold ndb
          rw [if_pos (by simp_all)]
          exact hR

set_option maxHeartbeats 4000000 in
set_option maxRecDepth 100000 in
theorem c_X7_putOut {E : Ev} {m : Nat} {σ : Sg} {τ : Tu} {h : Hp} (hR : RR E m σ τ h) {p : Nat} (hp : p < m) (k : Int32) : Cn E mX7_putOut (rk 1 0 0) h [.ref (aX E), .ref (aP E p), .int k] (fun v h' => v = none ∧ RR E m (putO σ p k) τ h') := by
  refine Cn_of (by decide) rfl (by simp [Value.category]) (Nat.le_of_ble_eq_true rfl) ?_
  refine G_aload_n 1 rfl rfl dX7_putOut_0 ?_
  refine G_p1 4 rfl hR fl_X7_63 hp dX7_putOut_1 ?_
  refine G_iconst 5 rfl (4) (by decide) dX7_putOut_4 ?_
  refine G_callV 8 rfl [.int 4] (c_X6_become hR hp 4) ok_X6_become ov_X6_become ml_X7_107 (hR.ob (ci := 6) (i := p) (by decide) hp) ⟨by decide, rfl⟩ rfl ⟨by decide, by decide⟩ rfl rfl (Nat.le_of_ble_eq_true rfl) rfl dX7_putOut_5 ?_
  rintro v h ⟨rfl, hR⟩
  refine G_aload_n 9 rfl rfl dX7_putOut_8 ?_
  refine G_iload_n 10 rfl rfl dX7_putOut_9 ?_
  refine G_pi 13 rfl hR 5 14 p 334 fl_X7_226 hp rfl ⟨rfl, rfl⟩ rfl rfl dX7_putOut_10 (fun h hR => ?_)
  refine G_aload_n 14 rfl rfl dX7_putOut_13 ?_
  refine G_iconst 15 rfl (1) (by decide) dX7_putOut_14 ?_
  refine G_pz 18 rfl hR 5 18 p 338 fl_X7_229 hp rfl ⟨rfl, rfl⟩ (by decide) rfl rfl dX7_putOut_15 (fun h hR => ?_)
  refine G_aload_n 19 rfl rfl dX7_putOut_18 ?_
  refine G_aload_n 20 rfl rfl dX7_putOut_19 ?_
  refine G_callV 23 rfl [.ref (aP E p)] (c_X7_noteDouble hR hp) ok_X7_noteDouble ov_X7_noteDouble ml_X7_233 (hR.ob (ci := 7) (i := 0) (by decide) rfl) ⟨by decide, rfl⟩ rfl ⟨by decide, by decide⟩ rfl rfl (Nat.le_of_ble_eq_true rfl) rfl dX7_putOut_20 ?_
  rintro v h ⟨rfl, hR⟩
  refine G_ret rfl ?_ dX7_putOut_23
  exact ⟨rfl, hR⟩

set_option maxHeartbeats 4000000 in
set_option maxRecDepth 100000 in
theorem c_X7_runOutOfTime {E : Ev} {m : Nat} {σ : Sg} {τ : Tu} {h : Hp} (hR : RR E m σ τ h) {p : Nat} (hp : p < m) {w : Nat} (hw : σ.1 336 p = nI w) (hwl : w ≤ (sPb σ p).length) : Cn E mX7_runOutOfTime (rk 2 0 0) h [.ref (aX E), .ref (aP E p)] (fun v h' => v = none ∧ RR E m (rOut σ p) τ h') := by
  refine Cn_of (by decide) rfl (by simp [Value.category]) (Nat.le_of_ble_eq_true rfl) ?_
  refine G_aload_n 1 rfl rfl dX7_runOutOfTime_0 ?_
  refine G_p1 4 rfl hR fl_X7_63 hp dX7_runOutOfTime_1 ?_
  refine G_gi 7 rfl hR 6 0 p 384 (σ.1 384 p) fl_X7_94 hp rfl rfl rfl rfl dX7_runOutOfTime_4 ?_
  refine G_iconst 8 rfl (1) (by decide) dX7_runOutOfTime_7 ?_
  refine G_icmp_ne 24 11 rfl (by decide) dX7_runOutOfTime_8 (fun c8 => ?_) (fun c8 => ?_)
  · skip
    refine G_aload_n 25 rfl rfl dX7_runOutOfTime_24 ?_
    refine G_p1 28 rfl hR fl_X7_63 hp dX7_runOutOfTime_25 ?_
    refine G_gi 31 rfl hR 6 0 p 384 (σ.1 384 p) fl_X7_94 hp rfl rfl rfl rfl dX7_runOutOfTime_28 ?_
    refine G_iconst 32 rfl (3) (by decide) dX7_runOutOfTime_31 ?_
    refine G_icmp_ne 39 35 rfl (by decide) dX7_runOutOfTime_32 (fun c32 => ?_) (fun c32 => ?_)
    · skip
      refine G_ret rfl ?_ dX7_runOutOfTime_39
      refine ⟨rfl, ?_⟩
      unfold rOut
      first | (rw [if_pos c8]; exact hR) | (rw [if_neg c8, if_pos c32]; exact hR) | (rw [if_neg c8, if_neg c32]; exact hR)
    · skip
      refine G_aload_n 36 rfl rfl dX7_runOutOfTime_35 ?_
      refine G_callV 39 rfl [] (c_X5_beginWithdraw hR hp hw hwl) ok_X5_beginWithdraw ov_X5_beginWithdraw ml_X7_104 (hR.ob (ci := 5) (i := p) (by decide) hp) ⟨by decide, rfl⟩ rfl ⟨by decide, by decide⟩ rfl rfl (Nat.le_of_ble_eq_true rfl) rfl dX7_runOutOfTime_36 ?_
      rintro v h ⟨rfl, hR⟩
      refine G_ret rfl ?_ dX7_runOutOfTime_39
      refine ⟨rfl, ?_⟩
      unfold rOut
      first | (rw [if_pos c8]; exact hR) | (rw [if_neg c8, if_pos c32]; exact hR) | (rw [if_neg c8, if_neg c32]; exact hR)
  · skip
    refine G_aload_n 12 rfl rfl dX7_runOutOfTime_11 ?_
    refine G_aload_n 13 rfl rfl dX7_runOutOfTime_12 ?_
    refine G_iconst 14 rfl (3) (by decide) dX7_runOutOfTime_13 ?_
    refine G_callV 17 rfl [.ref (aP E p), .int 3] (c_X7_putOut hR hp 3) ok_X7_putOut ov_X7_putOut ml_X7_97 (hR.ob (ci := 7) (i := 0) (by decide) rfl) ⟨by decide, rfl⟩ rfl ⟨by decide, by decide⟩ rfl rfl (Nat.le_of_ble_eq_true rfl) rfl dX7_runOutOfTime_14 ?_
    rintro v h ⟨rfl, hR⟩
    refine G_aload_n 18 rfl rfl dX7_runOutOfTime_17 ?_
    refine G_callV 21 rfl [] (c_X5_beginWithdraw hR hp (w := w) (by rw [putO_f _ _ _ _ _ (by decide) (by decide) (by decide) (by decide) (by decide) (by decide)]; exact hw) (by rw [show sPb (putO σ p 3) = sPb σ by unfold sPb; rw [putO_2]]; exact hwl)) ok_X5_beginWithdraw ov_X5_beginWithdraw ml_X7_104 (hR.ob (ci := 5) (i := p) (by decide) hp) ⟨by decide, rfl⟩ rfl ⟨by decide, by decide⟩ rfl rfl (Nat.le_of_ble_eq_true rfl) rfl dX7_runOutOfTime_18 ?_
    rintro v h ⟨rfl, hR⟩
    refine G_goto 39 (by decide) dX7_runOutOfTime_21 ?_
    refine G_ret rfl ?_ dX7_runOutOfTime_39
    refine ⟨rfl, ?_⟩
    unfold rOut
    first | (rw [if_pos c8]; exact hR) | (rw [if_neg c8, if_pos c32]; exact hR) | (rw [if_neg c8, if_neg c32]; exact hR)

set_option maxHeartbeats 4000000 in
set_option maxRecDepth 100000 in
theorem c_X7_tryWord {E : Ev} {m : Nat} {σ : Sg} {τ : Tu} {h : Hp} (hR : RR E m σ τ h) {p : Nat} (hp : p < m) {t : Nat} (ht : t < m) {n : Nat} (hn : 1 ≤ n ∧ n ≤ sNp σ) : Cn E mX7_tryWord (rk 1 0 0) h [.ref (aX E), .ref (aP E p), .ref (aP E t), .ref (aE E m n)] (fun v h' => (tryOk σ p t n ∧ v = some (.int 1) ∧ RR E m (tryY σ p t) τ h') ∨ (¬ tryOk σ p t n ∧ v = some (.int 0) ∧ RR E m (tryN σ) τ h')) := by
  refine Cn_of (by decide) rfl (by simp [Value.category]) (Nat.le_of_ble_eq_true rfl) ?_
  refine G_aload_n 1 rfl rfl dX7_tryWord_0 ?_
  refine G_dup 2 rfl rfl dX7_tryWord_1 ?_
  refine G_gi 5 rfl hR 7 6 0 454 (σ.1 454 0) fl_X7_156 rfl rfl rfl rfl rfl dX7_tryWord_2 ?_
  refine G_iconst 6 rfl (1) (by decide) dX7_tryWord_5 ?_
  refine G_iadd 7 rfl dX7_tryWord_6 ?_
  refine G_pi 10 rfl hR 7 6 0 454 fl_X7_156 rfl rfl ⟨rfl, rfl⟩ rfl rfl dX7_tryWord_7 (fun h hR => ?_)
  refine G_aload_n 11 rfl rfl dX7_tryWord_10 ?_
  refine G_p1 14 rfl hR fl_X7_63 ht dX7_tryWord_11 ?_
  refine G_iconst 15 rfl (1) (by decide) dX7_tryWord_14 ?_
  refine G_aload_n 16 rfl rfl dX7_tryWord_15 ?_
  refine G_aload_n 17 rfl rfl dX7_tryWord_16 ?_
  refine G_aload_n 18 rfl rfl dX7_tryWord_17 ?_
  refine G_callS 21 rfl [.ref (aP E p), .ref (aP E t), .ref (aE E m n)] (c_X7_versionSought hR hp ht hn) ok_X7_versionSought os_X7_versionSought ml_X7_309 rfl ⟨by decide, by decide⟩ rfl rfl (Nat.le_of_ble_eq_true rfl) rfl dX7_tryWord_18 ?_
  rintro v h' ⟨rfl, rfl⟩
  refine G_callV 24 rfl [.int 1, .int (vs σ p t n)] (c_X6_isAt hR ht 1 (vs σ p t n)) ok_X6_isAt ov_X6_isAt ml_X7_313 (hR.ob (ci := 6) (i := t) (by decide) ht) ⟨by decide, rfl⟩ rfl ⟨by decide, by decide⟩ rfl rfl (Nat.le_of_ble_eq_true rfl) rfl dX7_tryWord_21 ?_
  rintro v h' ⟨⟨hs, rfl⟩ | ⟨hs, rfl⟩, rfl⟩
  · skip
    refine G_ifF_eq 27 rfl (by decide) ⟨40, by decide⟩ dX7_tryWord_24 ?_
    refine G_aload_n 28 rfl rfl dX7_tryWord_27 ?_
    refine G_p1 31 rfl hR fl_X7_63 ht dX7_tryWord_28 ?_
    refine G_aload_n 32 rfl rfl dX7_tryWord_31 ?_
    refine G_p0 35 rfl hR fl_X7_241 hp dX7_tryWord_32 ?_
    refine G_callV 38 rfl [.int (nI p)] (c_X6_claimFor hR ht (nI p)) ok_X6_claimFor ov_X6_claimFor ml_X7_317 (hR.ob (ci := 6) (i := t) (by decide) ht) ⟨by decide, rfl⟩ rfl ⟨by decide, by decide⟩ rfl rfl (Nat.le_of_ble_eq_true rfl) rfl dX7_tryWord_35 ?_
    rintro v h ⟨rfl, hR⟩
    refine G_iconst 39 rfl (1) (by decide) dX7_tryWord_38 ?_
    refine G_iret (ty := .boolean) rfl (by decide) ?_ dX7_tryWord_39
    exact Or.inl ⟨hs, rfl, hR⟩
  · skip
    refine G_ifT_eq 40 (by decide) (by decide) dX7_tryWord_24 ?_
    refine G_aload_n 41 rfl rfl dX7_tryWord_40 ?_
    refine G_dup 42 rfl rfl dX7_tryWord_41 ?_
    refine G_gi 45 rfl hR 7 7 0 455 (σ.1 455 0) fl_X7_159 rfl rfl rfl rfl rfl dX7_tryWord_42 ?_
    refine G_iconst 46 rfl (1) (by decide) dX7_tryWord_45 ?_
    refine G_iadd 47 rfl dX7_tryWord_46 ?_
    refine G_pi 50 rfl hR 7 7 0 455 fl_X7_159 rfl rfl ⟨rfl, rfl⟩ rfl rfl dX7_tryWord_47 (fun h hR => ?_)
    refine G_iconst 51 rfl (0) (by decide) dX7_tryWord_50 ?_
    refine G_iret (ty := .boolean) rfl (by decide) ?_ dX7_tryWord_51
    exact Or.inr ⟨hs, rfl, hR⟩

set_option maxHeartbeats 4000000 in
set_option maxRecDepth 100000 in
theorem c_X7_noteBusy {E : Ev} {m : Nat} {σ : Sg} {τ : Tu} {h : Hp} (hR : RR E m σ τ h) {p : Nat} (hp : p < m) {t : Nat} (ht : t < m) {n : Nat} (hn : 1 ≤ n ∧ n ≤ sNp σ) : Cn E mX7_noteBusy (rk 1 0 0) h [.ref (aP E p), .ref (aP E t), .ref (aE E m n)] (fun v h' => v = none ∧ RR E m (nBs σ p t n) τ h') := by
  refine Cn_of (by decide) rfl (by simp [Value.category]) (Nat.le_of_ble_eq_true rfl) ?_
  refine G_aload_n 1 rfl rfl dX7_noteBusy_0 ?_
  refine G_p1 4 rfl hR fl_X7_63 ht dX7_noteBusy_1 ?_
  refine G_iconst 5 rfl (2) (by decide) dX7_noteBusy_4 ?_
  refine G_aload_n 6 rfl rfl dX7_noteBusy_5 ?_
  refine G_aload_n 7 rfl rfl dX7_noteBusy_6 ?_
  refine G_aload_n 8 rfl rfl dX7_noteBusy_7 ?_
  refine G_callS 11 rfl [.ref (aP E p), .ref (aP E t), .ref (aE E m n)] (c_X7_versionSought hR hp ht hn) ok_X7_versionSought os_X7_versionSought ml_X7_309 rfl ⟨by decide, by decide⟩ rfl rfl (Nat.le_of_ble_eq_true rfl) rfl dX7_noteBusy_8 ?_
  rintro v h' ⟨rfl, rfl⟩
  refine G_callV 14 rfl [.int 2, .int (vs σ p t n)] (c_X6_isAt hR ht 2 (vs σ p t n)) ok_X6_isAt ov_X6_isAt ml_X7_313 (hR.ob (ci := 6) (i := t) (by decide) ht) ⟨by decide, rfl⟩ rfl ⟨by decide, by decide⟩ rfl rfl (Nat.le_of_ble_eq_true rfl) rfl dX7_noteBusy_11 ?_
  rintro v h' ⟨⟨hs, rfl⟩ | ⟨hs, rfl⟩, rfl⟩
  · skip
    refine G_ifF_eq 17 rfl (by decide) ⟨22, by decide⟩ dX7_noteBusy_14 ?_
    refine G_aload_n 18 rfl rfl dX7_noteBusy_17 ?_
    refine G_iconst 19 rfl (1) (by decide) dX7_noteBusy_18 ?_
    refine G_pz 22 rfl hR 5 12 p 332 fl_X7_320 hp rfl ⟨rfl, rfl⟩ (by decide) rfl rfl dX7_noteBusy_19 (fun h hR => ?_)
    refine G_ret rfl ?_ dX7_noteBusy_22
    refine ⟨rfl, ?_⟩
    unfold nBs
    first | (rw [if_pos hs]; exact hR) | (rw [if_neg hs]; exact hR)
  · skip
    refine G_ifT_eq 22 (by decide) (by decide) dX7_noteBusy_14 ?_
    refine G_ret rfl ?_ dX7_noteBusy_22
    refine ⟨rfl, ?_⟩
    unfold nBs
    first | (rw [if_pos hs]; exact hR) | (rw [if_neg hs]; exact hR)

set_option maxHeartbeats 4000000 in
set_option maxRecDepth 100000 in
theorem c_X4_add {E : Ev} {m : Nat} {σ : Sg} {τ : Tu} {h : Hp} (hR : RR E m σ τ h) {p : Nat} (hp : p < m) {n : Nat} (hn : 1 ≤ n ∧ n ≤ sNp σ) {g : Nat} (hgg : g < 8 * m) {z : Nat} (hz : σ.1 257 0 = nI z) (hzb : z < 2 ^ 30) (k : Int32) : Cn E mX4_add (rk 0 0 0) h [.ref (aPL E m), .ref (aP E p), .ref (aE E m n), .ref (aG E g), .int k] (fun v h' => v = none ∧ RR E m (addP σ p n g k) τ h') := by
  refine Cn_of (by decide) rfl (by simp [Value.category]) (Nat.le_of_ble_eq_true rfl) ?_
  refine G_aload_n 1 rfl rfl dX4_add_0 ?_
  refine G_gi 4 rfl hR 4 1 0 257 (σ.1 257 0) fl_X4_15 rfl rfl rfl rfl rfl dX4_add_1 ?_
  refine G_sipush 7 rfl (200) (by decide) dX4_add_4 ?_
  by_cases hz2 : z < 200
  · skip
    refine G_icmpF_ge 10 rfl (by rw [hz]; exact nI_ge (b := 200) hz2 (by omega)) ⟨162, by decide⟩ dX4_add_7 ?_
    refine G_aload_n 11 rfl rfl dX4_add_10 ?_
    refine G_gi 14 rfl hR 4 1 0 257 (σ.1 257 0) fl_X4_15 rfl rfl rfl rfl rfl dX4_add_11 ?_
    refine G_bipush 16 rfl (8) (by decide) dX4_add_14 ?_
    refine G_imul 17 rfl dX4_add_16 ?_
    refine G_istore 19 rfl (by decide) dX4_add_17 ?_
    refine G_aload_n 20 rfl rfl dX4_add_19 ?_
    refine G_gi 23 rfl hR 2 0 g 128 (σ.1 128 g) fl_X4_19 hgg rfl rfl rfl rfl dX4_add_20 ?_
    refine G_if_ne 30 26 rfl (by decide) dX4_add_23 (fun c23 => ?_) (fun c23 => ?_)
    · skip
      refine G_iconst 31 rfl (0) (by decide) dX4_add_30 ?_
      refine G_istore 33 rfl (by decide) dX4_add_31 ?_
      refine G_aload_n 34 rfl rfl dX4_add_33 ?_
      refine G_g0 37 rfl hR fl_X4_9 dX4_add_34 ?_
      refine G_iload 39 rfl rfl dX4_add_37 ?_
      refine G_aload_n 40 rfl rfl dX4_add_39 ?_
      refine G_p0 43 rfl hR fl_X4_24 hp dX4_add_40 ?_
      refine G_ppPut 44 rfl hR (j := z * 8) (by rw [hz]; exact pk_mul z 8) (by omega) dX4_add_43 (fun h hR => ?_)
      refine G_aload_n 45 rfl rfl dX4_add_44 ?_
      refine G_g0 48 rfl hR fl_X4_9 dX4_add_45 ?_
      refine G_iload 50 rfl rfl dX4_add_48 ?_
      refine G_iconst 51 rfl (1) (by decide) dX4_add_50 ?_
      refine G_iadd 52 rfl dX4_add_51 ?_
      refine G_aload_n 53 rfl rfl dX4_add_52 ?_
      refine G_gi 56 rfl hR 0 0 n 0 (σ.1 0 n) fl_X4_29 hn rfl rfl rfl rfl dX4_add_53 ?_
      refine G_ppPut 57 rfl hR (j := z * 8 + 1) (by rw [hz]; exact e8 z 1) (by omega) dX4_add_56 (fun h hR => ?_)
      refine G_aload_n 58 rfl rfl dX4_add_57 ?_
      refine G_g0 61 rfl hR fl_X4_9 dX4_add_58 ?_
      refine G_iload 63 rfl rfl dX4_add_61 ?_
      refine G_iconst 64 rfl (2) (by decide) dX4_add_63 ?_
      refine G_iadd 65 rfl dX4_add_64 ?_
      refine G_aload_n 66 rfl rfl dX4_add_65 ?_
      refine G_gi 69 rfl hR 2 1 g 129 (σ.1 129 g) fl_X4_34 hgg rfl rfl rfl rfl dX4_add_66 ?_
      refine G_ppPut 70 rfl hR (j := z * 8 + 2) (by rw [hz]; exact e8 z 2) (by omega) dX4_add_69 (fun h hR => ?_)
      refine G_aload_n 71 rfl rfl dX4_add_70 ?_
      refine G_g0 74 rfl hR fl_X4_9 dX4_add_71 ?_
      refine G_iload 76 rfl rfl dX4_add_74 ?_
      refine G_iconst 77 rfl (3) (by decide) dX4_add_76 ?_
      refine G_iadd 78 rfl dX4_add_77 ?_
      refine G_iload 80 rfl rfl dX4_add_78 ?_
      refine G_ifT_eq 90 (by decide) (by decide) dX4_add_80 ?_
      refine G_aload_n 91 rfl rfl dX4_add_90 ?_
      refine G_gi 94 rfl hR 0 4 n 4 (σ.1 4 n) fl_X4_40 hn rfl rfl rfl rfl dX4_add_91 ?_
      refine G_ppPut 95 rfl hR (j := z * 8 + 3) (by rw [hz]; exact e8 z 3) (by omega) dX4_add_94 (fun h hR => ?_)
      refine G_aload_n 96 rfl rfl dX4_add_95 ?_
      refine G_g0 99 rfl hR fl_X4_9 dX4_add_96 ?_
      refine G_iload 101 rfl rfl dX4_add_99 ?_
      refine G_iconst 102 rfl (4) (by decide) dX4_add_101 ?_
      refine G_iadd 103 rfl dX4_add_102 ?_
      refine G_iload 105 rfl rfl dX4_add_103 ?_
      refine G_ifT_eq 115 (by decide) (by decide) dX4_add_105 ?_
      refine G_aload_n 116 rfl rfl dX4_add_115 ?_
      refine G_gi 119 rfl hR 0 0 n 0 (σ.1 0 n) fl_X4_29 hn rfl rfl rfl rfl dX4_add_116 ?_
      refine G_ppPut 120 rfl hR (j := z * 8 + 4) (by rw [hz]; exact e8 z 4) (by omega) dX4_add_119 (fun h hR => ?_)
      refine G_aload_n 121 rfl rfl dX4_add_120 ?_
      refine G_g0 124 rfl hR fl_X4_9 dX4_add_121 ?_
      refine G_iload 126 rfl rfl dX4_add_124 ?_
      refine G_iconst 127 rfl (5) (by decide) dX4_add_126 ?_
      refine G_iadd 128 rfl dX4_add_127 ?_
      refine G_aload_n 129 rfl rfl dX4_add_128 ?_
      refine G_p1 132 rfl hR fl_X4_41 hp dX4_add_129 ?_
      refine G_gi 135 rfl hR 6 1 p 385 (σ.1 385 p) fl_X4_45 hp rfl rfl rfl rfl dX4_add_132 ?_
      refine G_ppPut 136 rfl hR (j := z * 8 + 5) (by rw [hz]; exact e8 z 5) (by omega) dX4_add_135 (fun h hR => ?_)
      refine G_aload_n 137 rfl rfl dX4_add_136 ?_
      refine G_g0 140 rfl hR fl_X4_9 dX4_add_137 ?_
      refine G_iload 142 rfl rfl dX4_add_140 ?_
      refine G_bipush 144 rfl (6) (by decide) dX4_add_142 ?_
      refine G_iadd 145 rfl dX4_add_144 ?_
      refine G_aload_n 146 rfl rfl dX4_add_145 ?_
      refine G_gi 149 rfl hR 0 1 n 1 (σ.1 1 n) fl_X4_50 hn rfl rfl rfl rfl dX4_add_146 ?_
      refine G_ppPut 150 rfl hR (j := z * 8 + 6) (by rw [hz]; exact e8 z 6) (by omega) dX4_add_149 (fun h hR => ?_)
      refine G_aload_n 151 rfl rfl dX4_add_150 ?_
      refine G_g0 154 rfl hR fl_X4_9 dX4_add_151 ?_
      refine G_iload 156 rfl rfl dX4_add_154 ?_
      refine G_bipush 158 rfl (7) (by decide) dX4_add_156 ?_
      refine G_iadd 159 rfl dX4_add_158 ?_
      refine G_iload 161 rfl rfl dX4_add_159 ?_
      refine G_ppPut 162 rfl hR (j := z * 8 + 7) (by rw [hz]; exact e8 z 7) (by omega) dX4_add_161 (fun h hR => ?_)
      refine G_aload_n 163 rfl rfl dX4_add_162 ?_
      refine G_dup 164 rfl rfl dX4_add_163 ?_
      refine G_gi 167 rfl hR 4 1 0 257 (σ.1 257 0) fl_X4_15 rfl rfl rfl rfl rfl dX4_add_164 ?_
      refine G_iconst 168 rfl (1) (by decide) dX4_add_167 ?_
      refine G_iadd 169 rfl dX4_add_168 ?_
      refine G_pi 172 rfl hR 4 1 0 257 fl_X4_15 rfl rfl ⟨rfl, rfl⟩ rfl rfl dX4_add_169 (fun h hR => ?_)
      refine G_ret rfl ?_ dX4_add_172
      refine ⟨rfl, ?_⟩
      unfold addP
      rw [if_pos (by rw [hz]; exact nI_lt (b := 200) hz2 (by omega))]
      unfold add8
      rw [hz, cN_nI (by omega), ← hz]
      first | (rw [if_pos c23, if_pos c23]; exact hR) | (rw [if_neg c23, if_neg c23]; exact hR)
    · skip
      refine G_iconst 27 rfl (1) (by decide) dX4_add_26 ?_
      refine G_goto 31 (by decide) dX4_add_27 ?_
      refine G_istore 33 rfl (by decide) dX4_add_31 ?_
      refine G_aload_n 34 rfl rfl dX4_add_33 ?_
      refine G_g0 37 rfl hR fl_X4_9 dX4_add_34 ?_
      refine G_iload 39 rfl rfl dX4_add_37 ?_
      refine G_aload_n 40 rfl rfl dX4_add_39 ?_
      refine G_p0 43 rfl hR fl_X4_24 hp dX4_add_40 ?_
      refine G_ppPut 44 rfl hR (j := z * 8) (by rw [hz]; exact pk_mul z 8) (by omega) dX4_add_43 (fun h hR => ?_)
      refine G_aload_n 45 rfl rfl dX4_add_44 ?_
      refine G_g0 48 rfl hR fl_X4_9 dX4_add_45 ?_
      refine G_iload 50 rfl rfl dX4_add_48 ?_
      refine G_iconst 51 rfl (1) (by decide) dX4_add_50 ?_
      refine G_iadd 52 rfl dX4_add_51 ?_
      refine G_aload_n 53 rfl rfl dX4_add_52 ?_
      refine G_gi 56 rfl hR 0 0 n 0 (σ.1 0 n) fl_X4_29 hn rfl rfl rfl rfl dX4_add_53 ?_
      refine G_ppPut 57 rfl hR (j := z * 8 + 1) (by rw [hz]; exact e8 z 1) (by omega) dX4_add_56 (fun h hR => ?_)
      refine G_aload_n 58 rfl rfl dX4_add_57 ?_
      refine G_g0 61 rfl hR fl_X4_9 dX4_add_58 ?_
      refine G_iload 63 rfl rfl dX4_add_61 ?_
      refine G_iconst 64 rfl (2) (by decide) dX4_add_63 ?_
      refine G_iadd 65 rfl dX4_add_64 ?_
      refine G_aload_n 66 rfl rfl dX4_add_65 ?_
      refine G_gi 69 rfl hR 2 1 g 129 (σ.1 129 g) fl_X4_34 hgg rfl rfl rfl rfl dX4_add_66 ?_
      refine G_ppPut 70 rfl hR (j := z * 8 + 2) (by rw [hz]; exact e8 z 2) (by omega) dX4_add_69 (fun h hR => ?_)
      refine G_aload_n 71 rfl rfl dX4_add_70 ?_
      refine G_g0 74 rfl hR fl_X4_9 dX4_add_71 ?_
      refine G_iload 76 rfl rfl dX4_add_74 ?_
      refine G_iconst 77 rfl (3) (by decide) dX4_add_76 ?_
      refine G_iadd 78 rfl dX4_add_77 ?_
      refine G_iload 80 rfl rfl dX4_add_78 ?_
      refine G_ifF_eq 83 rfl (by decide) ⟨90, by decide⟩ dX4_add_80 ?_
      refine G_aload_n 84 rfl rfl dX4_add_83 ?_
      refine G_gi 87 rfl hR 2 2 g 130 (σ.1 130 g) fl_X4_37 hgg rfl rfl rfl rfl dX4_add_84 ?_
      refine G_goto 94 (by decide) dX4_add_87 ?_
      refine G_ppPut 95 rfl hR (j := z * 8 + 3) (by rw [hz]; exact e8 z 3) (by omega) dX4_add_94 (fun h hR => ?_)
      refine G_aload_n 96 rfl rfl dX4_add_95 ?_
      refine G_g0 99 rfl hR fl_X4_9 dX4_add_96 ?_
      refine G_iload 101 rfl rfl dX4_add_99 ?_
      refine G_iconst 102 rfl (4) (by decide) dX4_add_101 ?_
      refine G_iadd 103 rfl dX4_add_102 ?_
      refine G_iload 105 rfl rfl dX4_add_103 ?_
      refine G_ifF_eq 108 rfl (by decide) ⟨115, by decide⟩ dX4_add_105 ?_
      refine G_aload_n 109 rfl rfl dX4_add_108 ?_
      refine G_p0 112 rfl hR fl_X4_24 hp dX4_add_109 ?_
      refine G_goto 119 (by decide) dX4_add_112 ?_
      refine G_ppPut 120 rfl hR (j := z * 8 + 4) (by rw [hz]; exact e8 z 4) (by omega) dX4_add_119 (fun h hR => ?_)
      refine G_aload_n 121 rfl rfl dX4_add_120 ?_
      refine G_g0 124 rfl hR fl_X4_9 dX4_add_121 ?_
      refine G_iload 126 rfl rfl dX4_add_124 ?_
      refine G_iconst 127 rfl (5) (by decide) dX4_add_126 ?_
      refine G_iadd 128 rfl dX4_add_127 ?_
      refine G_aload_n 129 rfl rfl dX4_add_128 ?_
      refine G_p1 132 rfl hR fl_X4_41 hp dX4_add_129 ?_
      refine G_gi 135 rfl hR 6 1 p 385 (σ.1 385 p) fl_X4_45 hp rfl rfl rfl rfl dX4_add_132 ?_
      refine G_ppPut 136 rfl hR (j := z * 8 + 5) (by rw [hz]; exact e8 z 5) (by omega) dX4_add_135 (fun h hR => ?_)
      refine G_aload_n 137 rfl rfl dX4_add_136 ?_
      refine G_g0 140 rfl hR fl_X4_9 dX4_add_137 ?_
      refine G_iload 142 rfl rfl dX4_add_140 ?_
      refine G_bipush 144 rfl (6) (by decide) dX4_add_142 ?_
      refine G_iadd 145 rfl dX4_add_144 ?_
      refine G_aload_n 146 rfl rfl dX4_add_145 ?_
      refine G_gi 149 rfl hR 0 1 n 1 (σ.1 1 n) fl_X4_50 hn rfl rfl rfl rfl dX4_add_146 ?_
      refine G_ppPut 150 rfl hR (j := z * 8 + 6) (by rw [hz]; exact e8 z 6) (by omega) dX4_add_149 (fun h hR => ?_)
      refine G_aload_n 151 rfl rfl dX4_add_150 ?_
      refine G_g0 154 rfl hR fl_X4_9 dX4_add_151 ?_
      refine G_iload 156 rfl rfl dX4_add_154 ?_
      refine G_bipush 158 rfl (7) (by decide) dX4_add_156 ?_
      refine G_iadd 159 rfl dX4_add_158 ?_
      refine G_iload 161 rfl rfl dX4_add_159 ?_
      refine G_ppPut 162 rfl hR (j := z * 8 + 7) (by rw [hz]; exact e8 z 7) (by omega) dX4_add_161 (fun h hR => ?_)
      refine G_aload_n 163 rfl rfl dX4_add_162 ?_
      refine G_dup 164 rfl rfl dX4_add_163 ?_
      refine G_gi 167 rfl hR 4 1 0 257 (σ.1 257 0) fl_X4_15 rfl rfl rfl rfl rfl dX4_add_164 ?_
      refine G_iconst 168 rfl (1) (by decide) dX4_add_167 ?_
      refine G_iadd 169 rfl dX4_add_168 ?_
      refine G_pi 172 rfl hR 4 1 0 257 fl_X4_15 rfl rfl ⟨rfl, rfl⟩ rfl rfl dX4_add_169 (fun h hR => ?_)
      refine G_ret rfl ?_ dX4_add_172
      refine ⟨rfl, ?_⟩
      unfold addP
      rw [if_pos (by rw [hz]; exact nI_lt (b := 200) hz2 (by omega))]
      unfold add8
      rw [hz, cN_nI (by omega), ← hz]
      first | (rw [if_pos c23, if_pos c23]; exact hR) | (rw [if_neg c23, if_neg c23]; exact hR)
  · skip
    refine G_icmpT_ge 162 (by rw [hz]; exact nI_le (a := 200) (by omega) (by omega)) (by decide) dX4_add_7 ?_
    refine G_aload_n 163 rfl rfl dX4_add_162 ?_
    refine G_dup 164 rfl rfl dX4_add_163 ?_
    refine G_gi 167 rfl hR 4 1 0 257 (σ.1 257 0) fl_X4_15 rfl rfl rfl rfl rfl dX4_add_164 ?_
    refine G_iconst 168 rfl (1) (by decide) dX4_add_167 ?_
    refine G_iadd 169 rfl dX4_add_168 ?_
    refine G_pi 172 rfl hR 4 1 0 257 fl_X4_15 rfl rfl ⟨rfl, rfl⟩ rfl rfl dX4_add_169 (fun h hR => ?_)
    refine G_ret rfl ?_ dX4_add_172
    refine ⟨rfl, ?_⟩
    unfold addP
    rw [if_neg (by rw [hz]; exact nI_nlt (b := 200) (by omega) (by omega))]
    exact hR
end
section
set_option maxHeartbeats 4000000 in
set_option maxRecDepth 100000 in
theorem c_X7_recordPair {E : Ev} {m : Nat} {σ : Sg} {τ : Tu} {h : Hp} (hR : RR E m σ τ h) {p : Nat} (hp : p < m) {q : Nat} (hq : q < m) {n : Nat} (hn : 1 ≤ n ∧ n ≤ sNp σ) {g : Nat} (hgg : g < 8 * m) {z : Nat} (hz : σ.1 257 0 = nI z) (hzb : z < 2 ^ 30) : Cn E mX7_recordPair (rk 1 0 0) h [.ref (aX E), .ref (aP E p), .ref (aP E q), .ref (aE E m n), .ref (aG E g)] (fun v h' => v = none ∧ RR E m (recP σ p q n g) τ h') := by
  refine Cn_of (by decide) rfl (by simp [Value.category]) (Nat.le_of_ble_eq_true rfl) ?_
  refine G_aload_n 1 rfl rfl dX7_recordPair_0 ?_
  refine G_x2 4 rfl hR fl_X7_37 dX7_recordPair_1 ?_
  refine G_aload_n 5 rfl rfl dX7_recordPair_4 ?_
  refine G_aload_n 6 rfl rfl dX7_recordPair_5 ?_
  refine G_aload 8 rfl rfl dX7_recordPair_6 ?_
  refine G_aload_n 9 rfl rfl dX7_recordPair_8 ?_
  refine G_gi 12 rfl hR 7 4 0 452 (σ.1 452 0) fl_X7_147 rfl rfl rfl rfl rfl dX7_recordPair_9 ?_
  refine G_callV 15 rfl [.ref (aP E p), .ref (aE E m n), .ref (aG E g), .int (σ.1 452 0)] (c_X4_add hR hp hn hgg hz hzb (σ.1 452 0)) ok_X4_add ov_X4_add ml_X7_324 (hR.ob (ci := 4) (i := 0) (by decide) rfl) ⟨by decide, rfl⟩ rfl ⟨by decide, by decide⟩ rfl rfl (Nat.le_of_ble_eq_true rfl) rfl dX7_recordPair_12 ?_
  rintro v h ⟨rfl, hR⟩
  refine G_aload_n 16 rfl rfl dX7_recordPair_15 ?_
  refine G_dup 17 rfl rfl dX7_recordPair_16 ?_
  refine G_gi 20 rfl hR 5 17 p 337 ((addP σ p n g (σ.1 452 0)).1 337 p) fl_X7_328 hp rfl rfl rfl rfl dX7_recordPair_17 ?_
  refine G_iconst 21 rfl (1) (by decide) dX7_recordPair_20 ?_
  refine G_iadd 22 rfl dX7_recordPair_21 ?_
  refine G_pi 25 rfl hR 5 17 p 337 fl_X7_328 hp rfl ⟨rfl, rfl⟩ rfl rfl dX7_recordPair_22 (fun h hR => ?_)
  refine G_aload_n 26 rfl rfl dX7_recordPair_25 ?_
  refine G_aload_n 27 rfl rfl dX7_recordPair_26 ?_
  refine G_callV 30 rfl [.ref (aP E p)] (c_X7_noteDouble hR hp) ok_X7_noteDouble ov_X7_noteDouble ml_X7_233 (hR.ob (ci := 7) (i := 0) (by decide) rfl) ⟨by decide, rfl⟩ rfl ⟨by decide, by decide⟩ rfl rfl (Nat.le_of_ble_eq_true rfl) rfl dX7_recordPair_27 ?_
  rintro v h ⟨rfl, hR⟩
  refine G_aload_n 31 rfl rfl dX7_recordPair_30 ?_
  refine G_dup 32 rfl rfl dX7_recordPair_31 ?_
  refine G_gi 35 rfl hR 5 17 q 337 ((pOf (addP σ p n g (σ.1 452 0)) p).1 337 q) fl_X7_328 hq rfl rfl rfl rfl dX7_recordPair_32 ?_
  refine G_iconst 36 rfl (1) (by decide) dX7_recordPair_35 ?_
  refine G_iadd 37 rfl dX7_recordPair_36 ?_
  refine G_pi 40 rfl hR 5 17 q 337 fl_X7_328 hq rfl ⟨rfl, rfl⟩ rfl rfl dX7_recordPair_37 (fun h hR => ?_)
  refine G_aload_n 41 rfl rfl dX7_recordPair_40 ?_
  refine G_aload_n 42 rfl rfl dX7_recordPair_41 ?_
  refine G_callV 45 rfl [.ref (aP E q)] (c_X7_noteDouble hR hq) ok_X7_noteDouble ov_X7_noteDouble ml_X7_233 (hR.ob (ci := 7) (i := 0) (by decide) rfl) ⟨by decide, rfl⟩ rfl ⟨by decide, by decide⟩ rfl rfl (Nat.le_of_ble_eq_true rfl) rfl dX7_recordPair_42 ?_
  rintro v h ⟨rfl, hR⟩
  refine G_ret rfl ?_ dX7_recordPair_45
  exact ⟨rfl, hR⟩

set_option maxHeartbeats 4000000 in
set_option maxRecDepth 100000 in
theorem c_X7_claimLower {E : Ev} {m : Nat} {σ : Sg} {τ : Tu} {h : Hp} (hR : RR E m σ τ h) {p : Nat} (hp : p < m) {q : Nat} (hq : q < m) {n : Nat} (hn : 1 ≤ n ∧ n ≤ sNp σ) {w : Nat} (hw : σ.1 336 p = nI w) (hwl : w ≤ (sPb σ p).length) : Cn E mX7_claimLower (rk 2 0 0) h [.ref (aX E), .ref (aP E p), .ref (aP E q), .ref (aE E m n)] (fun v h' => v = none ∧ (fun t : Nat => (tryOk σ p t n ∧ RR E m (up (tryY σ p t) 325 p 5) τ h') ∨ (¬ tryOk σ p t n ∧ t = p ∧ stl σ p ∧ RR E m (bWd (tryN σ) p) τ h') ∨ (¬ tryOk σ p t n ∧ ¬ (t = p ∧ stl σ p) ∧ RR E m (up (nBs (tryN σ) p t n) 325 p 3) τ h')) (loT p q)) := by
  refine Cn_of (by decide) rfl (by simp [Value.category]) (Nat.le_of_ble_eq_true rfl) ?_
  have hm := hR.1.1
  refine G_aload_n 1 rfl rfl dX7_claimLower_0 ?_
  refine G_p0 4 rfl hR fl_X7_241 hp dX7_claimLower_1 ?_
  refine G_aload_n 5 rfl rfl dX7_claimLower_4 ?_
  refine G_p0 8 rfl hR fl_X7_241 hq dX7_claimLower_5 ?_
  by_cases hpq : p < q
  · skip
    refine G_icmpF_ge 11 rfl (nI_ge hpq (by omega)) ⟨15, by decide⟩ dX7_claimLower_8 ?_
    refine G_aload_n 12 rfl rfl dX7_claimLower_11 ?_
    refine G_goto 16 (by decide) dX7_claimLower_12 ?_
    refine G_astore 18 rfl (by decide) dX7_claimLower_16 ?_
    refine G_aload_n 19 rfl rfl dX7_claimLower_18 ?_
    refine G_aload_n 20 rfl rfl dX7_claimLower_19 ?_
    refine G_aload 22 rfl rfl dX7_claimLower_20 ?_
    refine G_aload_n 23 rfl rfl dX7_claimLower_22 ?_
    refine G_callV 26 rfl [.ref (aP E p), .ref (aP E p), .ref (aE E m n)] (c_X7_tryWord hR hp hp hn) ok_X7_tryWord ov_X7_tryWord ml_X7_274 (hR.ob (ci := 7) (i := 0) (by decide) rfl) ⟨by decide, rfl⟩ rfl ⟨by decide, by decide⟩ rfl rfl (Nat.le_of_ble_eq_true rfl) rfl dX7_claimLower_23 ?_
    rintro v h (⟨ht1, rfl, hR⟩ | ⟨ht1, rfl, hR⟩)
    · skip
      refine G_ifF_eq 29 rfl (by decide) ⟨37, by decide⟩ dX7_claimLower_26 ?_
      refine G_aload_n 30 rfl rfl dX7_claimLower_29 ?_
      refine G_iconst 31 rfl (5) (by decide) dX7_claimLower_30 ?_
      refine G_pi 34 rfl hR 5 5 p 325 fl_X7_48 hp rfl ⟨rfl, rfl⟩ rfl rfl dX7_claimLower_31 (fun h hR => ?_)
      refine G_goto 72 (by decide) dX7_claimLower_34 ?_
      refine G_ret rfl ?_ dX7_claimLower_72
      refine ⟨rfl, ?_⟩
      unfold loT
      first | rw [if_pos hpq] | rw [if_neg hpq]
      exact Or.inl ⟨ht1, hR⟩
    · skip
      refine G_ifT_eq 37 (by decide) (by decide) dX7_claimLower_26 ?_
      refine G_aload 39 rfl rfl dX7_claimLower_37 ?_
      refine G_aload_n 40 rfl rfl dX7_claimLower_39 ?_
      refine G_acmp_ne 60 43 rfl (by decide) dX7_claimLower_40 (fun c40 => ?_) (fun c40 => ?_)
      · skip
        refine G_aload_n 61 rfl rfl dX7_claimLower_60 ?_
        refine G_aload 63 rfl rfl dX7_claimLower_61 ?_
        refine G_aload_n 64 rfl rfl dX7_claimLower_63 ?_
        refine G_callS 67 rfl [.ref (aP E p), .ref (aP E p), .ref (aE E m n)] (c_X7_noteBusy hR hp hp hn) ok_X7_noteBusy os_X7_noteBusy ml_X7_281 rfl ⟨by decide, by decide⟩ rfl rfl (Nat.le_of_ble_eq_true rfl) rfl dX7_claimLower_64 ?_
        rintro v h ⟨rfl, hR⟩
        refine G_aload_n 68 rfl rfl dX7_claimLower_67 ?_
        refine G_iconst 69 rfl (3) (by decide) dX7_claimLower_68 ?_
        refine G_pi 72 rfl hR 5 5 p 325 fl_X7_48 hp rfl ⟨rfl, rfl⟩ rfl rfl dX7_claimLower_69 (fun h hR => ?_)
        refine G_ret rfl ?_ dX7_claimLower_72
        refine ⟨rfl, ?_⟩
        unfold loT
        first | rw [if_pos hpq] | rw [if_neg hpq]
        exact Or.inr (Or.inr ⟨ht1, by first | exact fun z => hs z.2 | exact fun z => c40 (congrArg (aP E) z.1), hR⟩)
      · skip
        refine G_aload_n 44 rfl rfl dX7_claimLower_43 ?_
        refine G_p1 47 rfl hR fl_X7_63 hp dX7_claimLower_44 ?_
        refine G_callV 50 rfl [] (c_X6_isSettled hR hp) ok_X6_isSettled ov_X6_isSettled ml_X7_278 (hR.ob (ci := 6) (i := p) (by decide) hp) ⟨by decide, rfl⟩ rfl ⟨by decide, by decide⟩ rfl rfl (Nat.le_of_ble_eq_true rfl) rfl dX7_claimLower_47 ?_
        rintro v h' ⟨⟨hs, rfl⟩ | ⟨hs, rfl⟩, rfl⟩
        · skip
          refine G_ifF_eq 53 rfl (by decide) ⟨60, by decide⟩ dX7_claimLower_50 ?_
          refine G_aload_n 54 rfl rfl dX7_claimLower_53 ?_
          refine G_callV 57 rfl [] (c_X5_beginWithdraw hR hp (w := w) hw hwl) ok_X5_beginWithdraw ov_X5_beginWithdraw ml_X7_104 (hR.ob (ci := 5) (i := p) (by decide) hp) ⟨by decide, rfl⟩ rfl ⟨by decide, by decide⟩ rfl rfl (Nat.le_of_ble_eq_true rfl) rfl dX7_claimLower_54 ?_
          rintro v h ⟨rfl, hR⟩
          refine G_goto 72 (by decide) dX7_claimLower_57 ?_
          refine G_ret rfl ?_ dX7_claimLower_72
          refine ⟨rfl, ?_⟩
          unfold loT
          first | rw [if_pos hpq] | rw [if_neg hpq]
          exact Or.inr (Or.inl ⟨ht1, by first | rfl | exact aP_inj c40, hs, hR⟩)
        · skip
          refine G_ifT_eq 60 (by decide) (by decide) dX7_claimLower_50 ?_
          refine G_aload_n 61 rfl rfl dX7_claimLower_60 ?_
          refine G_aload 63 rfl rfl dX7_claimLower_61 ?_
          refine G_aload_n 64 rfl rfl dX7_claimLower_63 ?_
          refine G_callS 67 rfl [.ref (aP E p), .ref (aP E p), .ref (aE E m n)] (c_X7_noteBusy hR hp hp hn) ok_X7_noteBusy os_X7_noteBusy ml_X7_281 rfl ⟨by decide, by decide⟩ rfl rfl (Nat.le_of_ble_eq_true rfl) rfl dX7_claimLower_64 ?_
          rintro v h ⟨rfl, hR⟩
          refine G_aload_n 68 rfl rfl dX7_claimLower_67 ?_
          refine G_iconst 69 rfl (3) (by decide) dX7_claimLower_68 ?_
          refine G_pi 72 rfl hR 5 5 p 325 fl_X7_48 hp rfl ⟨rfl, rfl⟩ rfl rfl dX7_claimLower_69 (fun h hR => ?_)
          refine G_ret rfl ?_ dX7_claimLower_72
          refine ⟨rfl, ?_⟩
          unfold loT
          first | rw [if_pos hpq] | rw [if_neg hpq]
          exact Or.inr (Or.inr ⟨ht1, by first | exact fun z => hs z.2 | exact fun z => c40 (congrArg (aP E) z.1), hR⟩)
  · skip
    refine G_icmpT_ge 15 (nI_le (by omega) (by omega)) (by decide) dX7_claimLower_8 ?_
    refine G_aload_n 16 rfl rfl dX7_claimLower_15 ?_
    refine G_astore 18 rfl (by decide) dX7_claimLower_16 ?_
    refine G_aload_n 19 rfl rfl dX7_claimLower_18 ?_
    refine G_aload_n 20 rfl rfl dX7_claimLower_19 ?_
    refine G_aload 22 rfl rfl dX7_claimLower_20 ?_
    refine G_aload_n 23 rfl rfl dX7_claimLower_22 ?_
    refine G_callV 26 rfl [.ref (aP E p), .ref (aP E q), .ref (aE E m n)] (c_X7_tryWord hR hp hq hn) ok_X7_tryWord ov_X7_tryWord ml_X7_274 (hR.ob (ci := 7) (i := 0) (by decide) rfl) ⟨by decide, rfl⟩ rfl ⟨by decide, by decide⟩ rfl rfl (Nat.le_of_ble_eq_true rfl) rfl dX7_claimLower_23 ?_
    rintro v h (⟨ht1, rfl, hR⟩ | ⟨ht1, rfl, hR⟩)
    · skip
      refine G_ifF_eq 29 rfl (by decide) ⟨37, by decide⟩ dX7_claimLower_26 ?_
      refine G_aload_n 30 rfl rfl dX7_claimLower_29 ?_
      refine G_iconst 31 rfl (5) (by decide) dX7_claimLower_30 ?_
      refine G_pi 34 rfl hR 5 5 p 325 fl_X7_48 hp rfl ⟨rfl, rfl⟩ rfl rfl dX7_claimLower_31 (fun h hR => ?_)
      refine G_goto 72 (by decide) dX7_claimLower_34 ?_
      refine G_ret rfl ?_ dX7_claimLower_72
      refine ⟨rfl, ?_⟩
      unfold loT
      first | rw [if_pos hpq] | rw [if_neg hpq]
      exact Or.inl ⟨ht1, hR⟩
    · skip
      refine G_ifT_eq 37 (by decide) (by decide) dX7_claimLower_26 ?_
      refine G_aload 39 rfl rfl dX7_claimLower_37 ?_
      refine G_aload_n 40 rfl rfl dX7_claimLower_39 ?_
      refine G_acmp_ne 60 43 rfl (by decide) dX7_claimLower_40 (fun c40 => ?_) (fun c40 => ?_)
      · skip
        refine G_aload_n 61 rfl rfl dX7_claimLower_60 ?_
        refine G_aload 63 rfl rfl dX7_claimLower_61 ?_
        refine G_aload_n 64 rfl rfl dX7_claimLower_63 ?_
        refine G_callS 67 rfl [.ref (aP E p), .ref (aP E q), .ref (aE E m n)] (c_X7_noteBusy hR hp hq hn) ok_X7_noteBusy os_X7_noteBusy ml_X7_281 rfl ⟨by decide, by decide⟩ rfl rfl (Nat.le_of_ble_eq_true rfl) rfl dX7_claimLower_64 ?_
        rintro v h ⟨rfl, hR⟩
        refine G_aload_n 68 rfl rfl dX7_claimLower_67 ?_
        refine G_iconst 69 rfl (3) (by decide) dX7_claimLower_68 ?_
        refine G_pi 72 rfl hR 5 5 p 325 fl_X7_48 hp rfl ⟨rfl, rfl⟩ rfl rfl dX7_claimLower_69 (fun h hR => ?_)
        refine G_ret rfl ?_ dX7_claimLower_72
        refine ⟨rfl, ?_⟩
        unfold loT
        first | rw [if_pos hpq] | rw [if_neg hpq]
        exact Or.inr (Or.inr ⟨ht1, by first | exact fun z => hs z.2 | exact fun z => c40 (congrArg (aP E) z.1), hR⟩)
      · skip
        refine G_aload_n 44 rfl rfl dX7_claimLower_43 ?_
        refine G_p1 47 rfl hR fl_X7_63 hp dX7_claimLower_44 ?_
        refine G_callV 50 rfl [] (c_X6_isSettled hR hp) ok_X6_isSettled ov_X6_isSettled ml_X7_278 (hR.ob (ci := 6) (i := p) (by decide) hp) ⟨by decide, rfl⟩ rfl ⟨by decide, by decide⟩ rfl rfl (Nat.le_of_ble_eq_true rfl) rfl dX7_claimLower_47 ?_
        rintro v h' ⟨⟨hs, rfl⟩ | ⟨hs, rfl⟩, rfl⟩
        · skip
          refine G_ifF_eq 53 rfl (by decide) ⟨60, by decide⟩ dX7_claimLower_50 ?_
          refine G_aload_n 54 rfl rfl dX7_claimLower_53 ?_
          refine G_callV 57 rfl [] (c_X5_beginWithdraw hR hp (w := w) hw hwl) ok_X5_beginWithdraw ov_X5_beginWithdraw ml_X7_104 (hR.ob (ci := 5) (i := p) (by decide) hp) ⟨by decide, rfl⟩ rfl ⟨by decide, by decide⟩ rfl rfl (Nat.le_of_ble_eq_true rfl) rfl dX7_claimLower_54 ?_
          rintro v h ⟨rfl, hR⟩
          refine G_goto 72 (by decide) dX7_claimLower_57 ?_
          refine G_ret rfl ?_ dX7_claimLower_72
          refine ⟨rfl, ?_⟩
          unfold loT
          first | rw [if_pos hpq] | rw [if_neg hpq]
          exact Or.inr (Or.inl ⟨ht1, by first | rfl | exact aP_inj c40, hs, hR⟩)
        · skip
          refine G_ifT_eq 60 (by decide) (by decide) dX7_claimLower_50 ?_
          refine G_aload_n 61 rfl rfl dX7_claimLower_60 ?_
          refine G_aload 63 rfl rfl dX7_claimLower_61 ?_
          refine G_aload_n 64 rfl rfl dX7_claimLower_63 ?_
          refine G_callS 67 rfl [.ref (aP E p), .ref (aP E q), .ref (aE E m n)] (c_X7_noteBusy hR hp hq hn) ok_X7_noteBusy os_X7_noteBusy ml_X7_281 rfl ⟨by decide, by decide⟩ rfl rfl (Nat.le_of_ble_eq_true rfl) rfl dX7_claimLower_64 ?_
          rintro v h ⟨rfl, hR⟩
          refine G_aload_n 68 rfl rfl dX7_claimLower_67 ?_
          refine G_iconst 69 rfl (3) (by decide) dX7_claimLower_68 ?_
          refine G_pi 72 rfl hR 5 5 p 325 fl_X7_48 hp rfl ⟨rfl, rfl⟩ rfl rfl dX7_claimLower_69 (fun h hR => ?_)
          refine G_ret rfl ?_ dX7_claimLower_72
          refine ⟨rfl, ?_⟩
          unfold loT
          first | rw [if_pos hpq] | rw [if_neg hpq]
          exact Or.inr (Or.inr ⟨ht1, by first | exact fun z => hs z.2 | exact fun z => c40 (congrArg (aP E) z.1), hR⟩)

set_option maxHeartbeats 4000000 in
set_option maxRecDepth 100000 in
theorem c_X7_claimHigher {E : Ev} {m : Nat} {σ : Sg} {τ : Tu} {h : Hp} (hR : RR E m σ τ h) {p : Nat} (hp : p < m) {q : Nat} (hq : q < m) {n : Nat} (hn : 1 ≤ n ∧ n ≤ sNp σ) {g : Nat} (hgg : g < 8 * m) {z : Nat} (hz : σ.1 257 0 = nI z) (hzb : z < 2 ^ 30) : Cn E mX7_claimHigher (rk 2 0 0) h [.ref (aX E), .ref (aP E p), .ref (aP E q), .ref (aE E m n), .ref (aG E g)] (fun v h' => v = none ∧ (fun t : Nat => (tryOk σ p t n ∧ RR E m (up (recP (tryY σ p t) p q n g) 325 p 7) τ h') ∨ (¬ tryOk σ p t n ∧ RR E m (up (up (nBs (tryN σ) p t n) 333 p (if t = p ∧ stl σ p then 1 else 0)) 325 p 6) τ h')) (hiT p q)) := by
  refine Cn_of (by decide) rfl (by simp [Value.category]) (Nat.le_of_ble_eq_true rfl) ?_
  have hm := hR.1.1
  refine G_aload_n 1 rfl rfl dX7_claimHigher_0 ?_
  refine G_p0 4 rfl hR fl_X7_241 hp dX7_claimHigher_1 ?_
  refine G_aload_n 5 rfl rfl dX7_claimHigher_4 ?_
  refine G_p0 8 rfl hR fl_X7_241 hq dX7_claimHigher_5 ?_
  by_cases hpq : p < q
  · skip
    refine G_icmpF_ge 11 rfl (nI_ge hpq (by omega)) ⟨15, by decide⟩ dX7_claimHigher_8 ?_
    refine G_aload_n 12 rfl rfl dX7_claimHigher_11 ?_
    refine G_goto 16 (by decide) dX7_claimHigher_12 ?_
    refine G_astore 18 rfl (by decide) dX7_claimHigher_16 ?_
    refine G_aload_n 19 rfl rfl dX7_claimHigher_18 ?_
    refine G_aload_n 20 rfl rfl dX7_claimHigher_19 ?_
    refine G_aload 22 rfl rfl dX7_claimHigher_20 ?_
    refine G_aload_n 23 rfl rfl dX7_claimHigher_22 ?_
    refine G_callV 26 rfl [.ref (aP E p), .ref (aP E q), .ref (aE E m n)] (c_X7_tryWord hR hp hq hn) ok_X7_tryWord ov_X7_tryWord ml_X7_274 (hR.ob (ci := 7) (i := 0) (by decide) rfl) ⟨by decide, rfl⟩ rfl ⟨by decide, by decide⟩ rfl rfl (Nat.le_of_ble_eq_true rfl) rfl dX7_claimHigher_23 ?_
    rintro v h (⟨ht1, rfl, hR⟩ | ⟨ht1, rfl, hR⟩)
    · skip
      refine G_ifF_eq 29 rfl (by decide) ⟨45, by decide⟩ dX7_claimHigher_26 ?_
      refine G_aload_n 30 rfl rfl dX7_claimHigher_29 ?_
      refine G_aload_n 31 rfl rfl dX7_claimHigher_30 ?_
      refine G_aload_n 32 rfl rfl dX7_claimHigher_31 ?_
      refine G_aload_n 33 rfl rfl dX7_claimHigher_32 ?_
      refine G_aload 35 rfl rfl dX7_claimHigher_33 ?_
      refine G_callV 38 rfl [.ref (aP E p), .ref (aP E q), .ref (aE E m n), .ref (aG E g)] (c_X7_recordPair hR hp hq hn hgg (z := z) hz hzb) ok_X7_recordPair ov_X7_recordPair ml_X7_284 (hR.ob (ci := 7) (i := 0) (by decide) rfl) ⟨by decide, rfl⟩ rfl ⟨by decide, by decide⟩ rfl rfl (Nat.le_of_ble_eq_true rfl) rfl dX7_claimHigher_35 ?_
      rintro v h ⟨rfl, hR⟩
      refine G_aload_n 39 rfl rfl dX7_claimHigher_38 ?_
      refine G_bipush 41 rfl (7) (by decide) dX7_claimHigher_39 ?_
      refine G_pi 44 rfl hR 5 5 p 325 fl_X7_48 hp rfl ⟨rfl, rfl⟩ rfl rfl dX7_claimHigher_41 (fun h hR => ?_)
      refine G_ret rfl ?_ dX7_claimHigher_44
      refine ⟨rfl, ?_⟩
      unfold hiT
      first | rw [if_pos hpq] | rw [if_neg hpq]
      exact Or.inl ⟨ht1, hR⟩
    · skip
      refine G_ifT_eq 45 (by decide) (by decide) dX7_claimHigher_26 ?_
      refine G_aload_n 46 rfl rfl dX7_claimHigher_45 ?_
      refine G_aload 48 rfl rfl dX7_claimHigher_46 ?_
      refine G_aload_n 49 rfl rfl dX7_claimHigher_48 ?_
      refine G_callS 52 rfl [.ref (aP E p), .ref (aP E q), .ref (aE E m n)] (c_X7_noteBusy hR hp hq hn) ok_X7_noteBusy os_X7_noteBusy ml_X7_281 rfl ⟨by decide, by decide⟩ rfl rfl (Nat.le_of_ble_eq_true rfl) rfl dX7_claimHigher_49 ?_
      rintro v h ⟨rfl, hR⟩
      refine G_aload_n 53 rfl rfl dX7_claimHigher_52 ?_
      refine G_aload 55 rfl rfl dX7_claimHigher_53 ?_
      refine G_aload_n 56 rfl rfl dX7_claimHigher_55 ?_
      refine G_acmp_ne 73 59 rfl (by decide) dX7_claimHigher_56 (fun c56 => ?_) (fun c56 => ?_)
      · skip
        refine G_iconst 74 rfl (0) (by decide) dX7_claimHigher_73 ?_
        refine G_pz 77 rfl hR 5 13 p 333 fl_X7_287 hp rfl ⟨rfl, rfl⟩ (by decide) rfl rfl dX7_claimHigher_74 (fun h hR => ?_)
        refine G_aload_n 78 rfl rfl dX7_claimHigher_77 ?_
        refine G_bipush 80 rfl (6) (by decide) dX7_claimHigher_78 ?_
        refine G_pi 83 rfl hR 5 5 p 325 fl_X7_48 hp rfl ⟨rfl, rfl⟩ rfl rfl dX7_claimHigher_80 (fun h hR => ?_)
        refine G_ret rfl ?_ dX7_claimHigher_83
        refine ⟨rfl, ?_⟩
        unfold hiT
        first | rw [if_pos hpq] | rw [if_neg hpq]
        refine Or.inr ⟨ht1, ?_⟩
        rw [if_neg (by first | exact fun z => c56 (congrArg (aP E) z.1) | (rw [nBs_f _ _ _ _ _ _ (by decide)] at hs; exact fun z => hs z.2))]
        exact hR
      · skip
        refine G_aload_n 60 rfl rfl dX7_claimHigher_59 ?_
        refine G_p1 63 rfl hR fl_X7_63 hp dX7_claimHigher_60 ?_
        refine G_callV 66 rfl [] (c_X6_isSettled hR hp) ok_X6_isSettled ov_X6_isSettled ml_X7_278 (hR.ob (ci := 6) (i := p) (by decide) hp) ⟨by decide, rfl⟩ rfl ⟨by decide, by decide⟩ rfl rfl (Nat.le_of_ble_eq_true rfl) rfl dX7_claimHigher_63 ?_
        rintro v h' ⟨⟨hs, rfl⟩ | ⟨hs, rfl⟩, rfl⟩
        · skip
          refine G_ifF_eq 69 rfl (by decide) ⟨73, by decide⟩ dX7_claimHigher_66 ?_
          refine G_iconst 70 rfl (1) (by decide) dX7_claimHigher_69 ?_
          refine G_goto 74 (by decide) dX7_claimHigher_70 ?_
          refine G_pz 77 rfl hR 5 13 p 333 fl_X7_287 hp rfl ⟨rfl, rfl⟩ (by decide) rfl rfl dX7_claimHigher_74 (fun h hR => ?_)
          refine G_aload_n 78 rfl rfl dX7_claimHigher_77 ?_
          refine G_bipush 80 rfl (6) (by decide) dX7_claimHigher_78 ?_
          refine G_pi 83 rfl hR 5 5 p 325 fl_X7_48 hp rfl ⟨rfl, rfl⟩ rfl rfl dX7_claimHigher_80 (fun h hR => ?_)
          refine G_ret rfl ?_ dX7_claimHigher_83
          refine ⟨rfl, ?_⟩
          unfold hiT
          first | rw [if_pos hpq] | rw [if_neg hpq]
          refine Or.inr ⟨ht1, ?_⟩
          rw [if_pos ⟨by first | rfl | exact aP_inj c56, by rw [nBs_f _ _ _ _ _ _ (by decide)] at hs; exact hs⟩]
          exact hR
        · skip
          refine G_ifT_eq 73 (by decide) (by decide) dX7_claimHigher_66 ?_
          refine G_iconst 74 rfl (0) (by decide) dX7_claimHigher_73 ?_
          refine G_pz 77 rfl hR 5 13 p 333 fl_X7_287 hp rfl ⟨rfl, rfl⟩ (by decide) rfl rfl dX7_claimHigher_74 (fun h hR => ?_)
          refine G_aload_n 78 rfl rfl dX7_claimHigher_77 ?_
          refine G_bipush 80 rfl (6) (by decide) dX7_claimHigher_78 ?_
          refine G_pi 83 rfl hR 5 5 p 325 fl_X7_48 hp rfl ⟨rfl, rfl⟩ rfl rfl dX7_claimHigher_80 (fun h hR => ?_)
          refine G_ret rfl ?_ dX7_claimHigher_83
          refine ⟨rfl, ?_⟩
          unfold hiT
          first | rw [if_pos hpq] | rw [if_neg hpq]
          refine Or.inr ⟨ht1, ?_⟩
          rw [if_neg (by first | exact fun z => c56 (congrArg (aP E) z.1) | (rw [nBs_f _ _ _ _ _ _ (by decide)] at hs; exact fun z => hs z.2))]
          exact hR
  · skip
    refine G_icmpT_ge 15 (nI_le (by omega) (by omega)) (by decide) dX7_claimHigher_8 ?_
    refine G_aload_n 16 rfl rfl dX7_claimHigher_15 ?_
    refine G_astore 18 rfl (by decide) dX7_claimHigher_16 ?_
    refine G_aload_n 19 rfl rfl dX7_claimHigher_18 ?_
    refine G_aload_n 20 rfl rfl dX7_claimHigher_19 ?_
    refine G_aload 22 rfl rfl dX7_claimHigher_20 ?_
    refine G_aload_n 23 rfl rfl dX7_claimHigher_22 ?_
    refine G_callV 26 rfl [.ref (aP E p), .ref (aP E p), .ref (aE E m n)] (c_X7_tryWord hR hp hp hn) ok_X7_tryWord ov_X7_tryWord ml_X7_274 (hR.ob (ci := 7) (i := 0) (by decide) rfl) ⟨by decide, rfl⟩ rfl ⟨by decide, by decide⟩ rfl rfl (Nat.le_of_ble_eq_true rfl) rfl dX7_claimHigher_23 ?_
    rintro v h (⟨ht1, rfl, hR⟩ | ⟨ht1, rfl, hR⟩)
    · skip
      refine G_ifF_eq 29 rfl (by decide) ⟨45, by decide⟩ dX7_claimHigher_26 ?_
      refine G_aload_n 30 rfl rfl dX7_claimHigher_29 ?_
      refine G_aload_n 31 rfl rfl dX7_claimHigher_30 ?_
      refine G_aload_n 32 rfl rfl dX7_claimHigher_31 ?_
      refine G_aload_n 33 rfl rfl dX7_claimHigher_32 ?_
      refine G_aload 35 rfl rfl dX7_claimHigher_33 ?_
      refine G_callV 38 rfl [.ref (aP E p), .ref (aP E q), .ref (aE E m n), .ref (aG E g)] (c_X7_recordPair hR hp hq hn hgg (z := z) hz hzb) ok_X7_recordPair ov_X7_recordPair ml_X7_284 (hR.ob (ci := 7) (i := 0) (by decide) rfl) ⟨by decide, rfl⟩ rfl ⟨by decide, by decide⟩ rfl rfl (Nat.le_of_ble_eq_true rfl) rfl dX7_claimHigher_35 ?_
      rintro v h ⟨rfl, hR⟩
      refine G_aload_n 39 rfl rfl dX7_claimHigher_38 ?_
      refine G_bipush 41 rfl (7) (by decide) dX7_claimHigher_39 ?_
      refine G_pi 44 rfl hR 5 5 p 325 fl_X7_48 hp rfl ⟨rfl, rfl⟩ rfl rfl dX7_claimHigher_41 (fun h hR => ?_)
      refine G_ret rfl ?_ dX7_claimHigher_44
      refine ⟨rfl, ?_⟩
      unfold hiT
      first | rw [if_pos hpq] | rw [if_neg hpq]
      exact Or.inl ⟨ht1, hR⟩
    · skip
      refine G_ifT_eq 45 (by decide) (by decide) dX7_claimHigher_26 ?_
      refine G_aload_n 46 rfl rfl dX7_claimHigher_45 ?_
      refine G_aload 48 rfl rfl dX7_claimHigher_46 ?_
      refine G_aload_n 49 rfl rfl dX7_claimHigher_48 ?_
      refine G_callS 52 rfl [.ref (aP E p), .ref (aP E p), .ref (aE E m n)] (c_X7_noteBusy hR hp hp hn) ok_X7_noteBusy os_X7_noteBusy ml_X7_281 rfl ⟨by decide, by decide⟩ rfl rfl (Nat.le_of_ble_eq_true rfl) rfl dX7_claimHigher_49 ?_
      rintro v h ⟨rfl, hR⟩
      refine G_aload_n 53 rfl rfl dX7_claimHigher_52 ?_
      refine G_aload 55 rfl rfl dX7_claimHigher_53 ?_
      refine G_aload_n 56 rfl rfl dX7_claimHigher_55 ?_
      refine G_acmp_ne 73 59 rfl (by decide) dX7_claimHigher_56 (fun c56 => ?_) (fun c56 => ?_)
      · skip
        refine G_iconst 74 rfl (0) (by decide) dX7_claimHigher_73 ?_
        refine G_pz 77 rfl hR 5 13 p 333 fl_X7_287 hp rfl ⟨rfl, rfl⟩ (by decide) rfl rfl dX7_claimHigher_74 (fun h hR => ?_)
        refine G_aload_n 78 rfl rfl dX7_claimHigher_77 ?_
        refine G_bipush 80 rfl (6) (by decide) dX7_claimHigher_78 ?_
        refine G_pi 83 rfl hR 5 5 p 325 fl_X7_48 hp rfl ⟨rfl, rfl⟩ rfl rfl dX7_claimHigher_80 (fun h hR => ?_)
        refine G_ret rfl ?_ dX7_claimHigher_83
        refine ⟨rfl, ?_⟩
        unfold hiT
        first | rw [if_pos hpq] | rw [if_neg hpq]
        refine Or.inr ⟨ht1, ?_⟩
        rw [if_neg (by first | exact fun z => c56 (congrArg (aP E) z.1) | (rw [nBs_f _ _ _ _ _ _ (by decide)] at hs; exact fun z => hs z.2))]
        exact hR
      · skip
        refine G_aload_n 60 rfl rfl dX7_claimHigher_59 ?_
        refine G_p1 63 rfl hR fl_X7_63 hp dX7_claimHigher_60 ?_
        refine G_callV 66 rfl [] (c_X6_isSettled hR hp) ok_X6_isSettled ov_X6_isSettled ml_X7_278 (hR.ob (ci := 6) (i := p) (by decide) hp) ⟨by decide, rfl⟩ rfl ⟨by decide, by decide⟩ rfl rfl (Nat.le_of_ble_eq_true rfl) rfl dX7_claimHigher_63 ?_
        rintro v h' ⟨⟨hs, rfl⟩ | ⟨hs, rfl⟩, rfl⟩
        · skip
          refine G_ifF_eq 69 rfl (by decide) ⟨73, by decide⟩ dX7_claimHigher_66 ?_
          refine G_iconst 70 rfl (1) (by decide) dX7_claimHigher_69 ?_
          refine G_goto 74 (by decide) dX7_claimHigher_70 ?_
          refine G_pz 77 rfl hR 5 13 p 333 fl_X7_287 hp rfl ⟨rfl, rfl⟩ (by decide) rfl rfl dX7_claimHigher_74 (fun h hR => ?_)
          refine G_aload_n 78 rfl rfl dX7_claimHigher_77 ?_
          refine G_bipush 80 rfl (6) (by decide) dX7_claimHigher_78 ?_
          refine G_pi 83 rfl hR 5 5 p 325 fl_X7_48 hp rfl ⟨rfl, rfl⟩ rfl rfl dX7_claimHigher_80 (fun h hR => ?_)
          refine G_ret rfl ?_ dX7_claimHigher_83
          refine ⟨rfl, ?_⟩
          unfold hiT
          first | rw [if_pos hpq] | rw [if_neg hpq]
          refine Or.inr ⟨ht1, ?_⟩
          rw [if_pos ⟨by first | rfl | exact aP_inj c56, by rw [nBs_f _ _ _ _ _ _ (by decide)] at hs; exact hs⟩]
          exact hR
        · skip
          refine G_ifT_eq 73 (by decide) (by decide) dX7_claimHigher_66 ?_
          refine G_iconst 74 rfl (0) (by decide) dX7_claimHigher_73 ?_
          refine G_pz 77 rfl hR 5 13 p 333 fl_X7_287 hp rfl ⟨rfl, rfl⟩ (by decide) rfl rfl dX7_claimHigher_74 (fun h hR => ?_)
          refine G_aload_n 78 rfl rfl dX7_claimHigher_77 ?_
          refine G_bipush 80 rfl (6) (by decide) dX7_claimHigher_78 ?_
          refine G_pi 83 rfl hR 5 5 p 325 fl_X7_48 hp rfl ⟨rfl, rfl⟩ rfl rfl dX7_claimHigher_80 (fun h hR => ?_)
          refine G_ret rfl ?_ dX7_claimHigher_83
          refine ⟨rfl, ?_⟩
          unfold hiT
          first | rw [if_pos hpq] | rw [if_neg hpq]
          refine Or.inr ⟨ht1, ?_⟩
          rw [if_neg (by first | exact fun z => c56 (congrArg (aP E) z.1) | (rw [nBs_f _ _ _ _ _ _ (by decide)] at hs; exact fun z => hs z.2))]
          exact hR

set_option maxHeartbeats 4000000 in
set_option maxRecDepth 100000 in
theorem c_X7_giveBack {E : Ev} {m : Nat} {σ : Sg} {τ : Tu} {h : Hp} (hR : RR E m σ τ h) {p : Nat} (hp : p < m) {q : Nat} (hq : q < m) {w : Nat} (hw : σ.1 336 p = nI w) (hwl : w ≤ (sPb σ p).length) : Cn E mX7_giveBack (rk 2 0 0) h [.ref (aX E), .ref (aP E p), .ref (aP E q)] (fun v h' => v = none ∧ RR E m (gvB σ p q) τ h') := by
  refine Cn_of (by decide) rfl (by simp [Value.category]) (Nat.le_of_ble_eq_true rfl) ?_
  have hm := hR.1.1
  refine G_aload_n 1 rfl rfl dX7_giveBack_0 ?_
  refine G_p0 4 rfl hR fl_X7_241 hp dX7_giveBack_1 ?_
  refine G_aload_n 5 rfl rfl dX7_giveBack_4 ?_
  refine G_p0 8 rfl hR fl_X7_241 hq dX7_giveBack_5 ?_
  by_cases hpq : p < q
  · skip
    refine G_icmpF_ge 11 rfl (nI_ge hpq (by omega)) ⟨15, by decide⟩ dX7_giveBack_8 ?_
    refine G_aload_n 12 rfl rfl dX7_giveBack_11 ?_
    refine G_goto 16 (by decide) dX7_giveBack_12 ?_
    refine G_astore_n 17 rfl (by decide) dX7_giveBack_16 ?_
    refine G_aload_n 18 rfl rfl dX7_giveBack_17 ?_
    refine G_p1 21 rfl hR fl_X7_63 hp dX7_giveBack_18 ?_
    refine G_iconst 22 rfl (1) (by decide) dX7_giveBack_21 ?_
    refine G_callV 25 rfl [.int 1] (c_X6_become hR hp 1) ok_X6_become ov_X6_become ml_X7_107 (hR.ob (ci := 6) (i := p) (by decide) hp) ⟨by decide, rfl⟩ rfl ⟨by decide, by decide⟩ rfl rfl (Nat.le_of_ble_eq_true rfl) rfl dX7_giveBack_22 ?_
    rintro v h ⟨rfl, hR⟩
    refine G_aload_n 26 rfl rfl dX7_giveBack_25 ?_
    refine G_gi 29 rfl hR 5 13 p 333 (σ.1 333 p) fl_X7_287 hp rfl rfl rfl rfl dX7_giveBack_26 ?_
    refine G_if_eq 39 32 rfl (by decide) dX7_giveBack_29 (fun c29 => ?_) (fun c29 => ?_)
    · skip
      refine G_aload_n 40 rfl rfl dX7_giveBack_39 ?_
      refine G_iconst 41 rfl (3) (by decide) dX7_giveBack_40 ?_
      refine G_pi 44 rfl hR 5 5 p 325 fl_X7_48 hp rfl ⟨rfl, rfl⟩ rfl rfl dX7_giveBack_41 (fun h hR => ?_)
      refine G_ret rfl ?_ dX7_giveBack_44
      refine ⟨rfl, ?_⟩
      unfold gvB
      first | (rw [if_pos c29]; unfold loT gv0; first | (rw [if_pos hpq]; exact hR) | (rw [if_neg hpq]; exact hR)) | (rw [if_neg c29]; unfold loT gv0; first | (rw [if_pos hpq]; exact hR) | (rw [if_neg hpq]; exact hR))
    · skip
      refine G_aload_n 33 rfl rfl dX7_giveBack_32 ?_
      refine G_callV 36 rfl [] (c_X5_beginWithdraw hR hp (w := w) hw hwl) ok_X5_beginWithdraw ov_X5_beginWithdraw ml_X7_104 (hR.ob (ci := 5) (i := p) (by decide) hp) ⟨by decide, rfl⟩ rfl ⟨by decide, by decide⟩ rfl rfl (Nat.le_of_ble_eq_true rfl) rfl dX7_giveBack_33 ?_
      rintro v h ⟨rfl, hR⟩
      refine G_goto 44 (by decide) dX7_giveBack_36 ?_
      refine G_ret rfl ?_ dX7_giveBack_44
      refine ⟨rfl, ?_⟩
      unfold gvB
      first | (rw [if_pos c29]; unfold loT gv0; first | (rw [if_pos hpq]; exact hR) | (rw [if_neg hpq]; exact hR)) | (rw [if_neg c29]; unfold loT gv0; first | (rw [if_pos hpq]; exact hR) | (rw [if_neg hpq]; exact hR))
  · skip
    refine G_icmpT_ge 15 (nI_le (by omega) (by omega)) (by decide) dX7_giveBack_8 ?_
    refine G_aload_n 16 rfl rfl dX7_giveBack_15 ?_
    refine G_astore_n 17 rfl (by decide) dX7_giveBack_16 ?_
    refine G_aload_n 18 rfl rfl dX7_giveBack_17 ?_
    refine G_p1 21 rfl hR fl_X7_63 hq dX7_giveBack_18 ?_
    refine G_iconst 22 rfl (1) (by decide) dX7_giveBack_21 ?_
    refine G_callV 25 rfl [.int 1] (c_X6_become hR hq 1) ok_X6_become ov_X6_become ml_X7_107 (hR.ob (ci := 6) (i := q) (by decide) hq) ⟨by decide, rfl⟩ rfl ⟨by decide, by decide⟩ rfl rfl (Nat.le_of_ble_eq_true rfl) rfl dX7_giveBack_22 ?_
    rintro v h ⟨rfl, hR⟩
    refine G_aload_n 26 rfl rfl dX7_giveBack_25 ?_
    refine G_gi 29 rfl hR 5 13 p 333 (σ.1 333 p) fl_X7_287 hp rfl rfl rfl rfl dX7_giveBack_26 ?_
    refine G_if_eq 39 32 rfl (by decide) dX7_giveBack_29 (fun c29 => ?_) (fun c29 => ?_)
    · skip
      refine G_aload_n 40 rfl rfl dX7_giveBack_39 ?_
      refine G_iconst 41 rfl (3) (by decide) dX7_giveBack_40 ?_
      refine G_pi 44 rfl hR 5 5 p 325 fl_X7_48 hp rfl ⟨rfl, rfl⟩ rfl rfl dX7_giveBack_41 (fun h hR => ?_)
      refine G_ret rfl ?_ dX7_giveBack_44
      refine ⟨rfl, ?_⟩
      unfold gvB
      first | (rw [if_pos c29]; unfold loT gv0; first | (rw [if_pos hpq]; exact hR) | (rw [if_neg hpq]; exact hR)) | (rw [if_neg c29]; unfold loT gv0; first | (rw [if_pos hpq]; exact hR) | (rw [if_neg hpq]; exact hR))
    · skip
      refine G_aload_n 33 rfl rfl dX7_giveBack_32 ?_
      refine G_callV 36 rfl [] (c_X5_beginWithdraw hR hp (w := w) hw hwl) ok_X5_beginWithdraw ov_X5_beginWithdraw ml_X7_104 (hR.ob (ci := 5) (i := p) (by decide) hp) ⟨by decide, rfl⟩ rfl ⟨by decide, by decide⟩ rfl rfl (Nat.le_of_ble_eq_true rfl) rfl dX7_giveBack_33 ?_
      rintro v h ⟨rfl, hR⟩
      refine G_goto 44 (by decide) dX7_giveBack_36 ?_
      refine G_ret rfl ?_ dX7_giveBack_44
      refine ⟨rfl, ?_⟩
      unfold gvB
      first | (rw [if_pos c29]; unfold loT gv0; first | (rw [if_pos hpq]; exact hR) | (rw [if_neg hpq]; exact hR)) | (rw [if_neg c29]; unfold loT gv0; first | (rw [if_pos hpq]; exact hR) | (rw [if_neg hpq]; exact hR))

set_option maxHeartbeats 4000000 in
set_option maxRecDepth 100000 in
theorem c_X7_tellOther {E : Ev} {m : Nat} {σ : Sg} {τ : Tu} {h : Hp} (hR : RR E m σ τ h) {p : Nat} (hp : p < m) {q : Nat} (hq : q < m) {g : Nat} (hgg : g < 8 * m) : Cn E mX7_tellOther (rk 1 0 0) h [.ref (aX E), .ref (aP E p), .ref (aP E q), .ref (aG E g)] (fun v h' => v = none ∧ RR E m (tlO σ p q g) τ h') := by
  refine Cn_of (by decide) rfl (by simp [Value.category]) (Nat.le_of_ble_eq_true rfl) ?_
  refine G_aload_n 1 rfl rfl dX7_tellOther_0 ?_
  refine G_p1 4 rfl hR fl_X7_63 hq dX7_tellOther_1 ?_
  refine G_iconst 5 rfl (3) (by decide) dX7_tellOther_4 ?_
  refine G_callV 8 rfl [.int 3] (c_X6_become hR hq 3) ok_X6_become ov_X6_become ml_X7_107 (hR.ob (ci := 6) (i := q) (by decide) hq) ⟨by decide, rfl⟩ rfl ⟨by decide, by decide⟩ rfl rfl (Nat.le_of_ble_eq_true rfl) rfl dX7_tellOther_5 ?_
  rintro v h ⟨rfl, hR⟩
  refine G_aload_n 9 rfl rfl dX7_tellOther_8 ?_
  refine G_p2 12 rfl hR fl_X7_118 hq dX7_tellOther_9 ?_
  refine G_aload_n 13 rfl rfl dX7_tellOther_12 ?_
  refine G_p0 16 rfl hR fl_X7_241 hp dX7_tellOther_13 ?_
  refine G_aload_n 17 rfl rfl dX7_tellOther_16 ?_
  refine G_gi 20 rfl hR 2 1 g 129 (σ.1 129 g) fl_X7_236 hgg rfl rfl rfl rfl dX7_tellOther_17 ?_
  refine G_aload_n 21 rfl rfl dX7_tellOther_20 ?_
  refine G_gi 24 rfl hR 2 0 g 128 (σ.1 128 g) fl_X7_273 hgg rfl rfl rfl rfl dX7_tellOther_21 ?_
  refine G_if_ne 34 27 rfl (by decide) dX7_tellOther_24 (fun c24 => ?_) (fun c24 => ?_)
  · skip
    refine G_iconst 35 rfl (0) (by decide) dX7_tellOther_34 ?_
    refine G_aload_n 36 rfl rfl dX7_tellOther_35 ?_
    refine G_p1 39 rfl hR fl_X7_63 hq dX7_tellOther_36 ?_
    refine G_gi 42 rfl hR 6 1 q 385 (σ.1 385 q) fl_X7_67 hq rfl rfl rfl rfl dX7_tellOther_39 ?_
    refine G_callV 45 rfl [.int (nI p), .int (σ.1 129 g), .int 0, .int (σ.1 385 q)] (c_X3_set hR hq (nI p) (σ.1 129 g) 0 (σ.1 385 q)) ok_X3_set ov_X3_set ml_X7_293 (hR.ob (ci := 3) (i := q) (by decide) hq) ⟨by decide, rfl⟩ rfl ⟨by decide, by decide⟩ rfl rfl (Nat.le_of_ble_eq_true rfl) rfl dX7_tellOther_42 ?_
    rintro v h ⟨rfl, hR⟩
    refine G_aload_n 46 rfl rfl dX7_tellOther_45 ?_
    refine G_bipush 48 rfl (8) (by decide) dX7_tellOther_46 ?_
    refine G_pi 51 rfl hR 5 5 p 325 fl_X7_48 hp rfl ⟨rfl, rfl⟩ rfl rfl dX7_tellOther_48 (fun h hR => ?_)
    refine G_ret rfl ?_ dX7_tellOther_51
    refine ⟨rfl, ?_⟩
    unfold tlO tell
    first | (rw [if_pos c24]; exact hR) | (rw [if_neg c24]; exact hR)
  · skip
    refine G_aload_n 28 rfl rfl dX7_tellOther_27 ?_
    refine G_gi 31 rfl hR 2 2 g 130 (σ.1 130 g) fl_X7_290 hgg rfl rfl rfl rfl dX7_tellOther_28 ?_
    refine G_goto 35 (by decide) dX7_tellOther_31 ?_
    refine G_aload_n 36 rfl rfl dX7_tellOther_35 ?_
    refine G_p1 39 rfl hR fl_X7_63 hq dX7_tellOther_36 ?_
    refine G_gi 42 rfl hR 6 1 q 385 (σ.1 385 q) fl_X7_67 hq rfl rfl rfl rfl dX7_tellOther_39 ?_
    refine G_callV 45 rfl [.int (nI p), .int (σ.1 129 g), .int (σ.1 130 g), .int (σ.1 385 q)] (c_X3_set hR hq (nI p) (σ.1 129 g) (σ.1 130 g) (σ.1 385 q)) ok_X3_set ov_X3_set ml_X7_293 (hR.ob (ci := 3) (i := q) (by decide) hq) ⟨by decide, rfl⟩ rfl ⟨by decide, by decide⟩ rfl rfl (Nat.le_of_ble_eq_true rfl) rfl dX7_tellOther_42 ?_
    rintro v h ⟨rfl, hR⟩
    refine G_aload_n 46 rfl rfl dX7_tellOther_45 ?_
    refine G_bipush 48 rfl (8) (by decide) dX7_tellOther_46 ?_
    refine G_pi 51 rfl hR 5 5 p 325 fl_X7_48 hp rfl ⟨rfl, rfl⟩ rfl rfl dX7_tellOther_48 (fun h hR => ?_)
    refine G_ret rfl ?_ dX7_tellOther_51
    refine ⟨rfl, ?_⟩
    unfold tlO tell
    first | (rw [if_pos c24]; exact hR) | (rw [if_neg c24]; exact hR)

set_option maxHeartbeats 4000000 in
set_option maxRecDepth 100000 in
theorem c_X7_takeOwn {E : Ev} {m : Nat} {σ : Sg} {τ : Tu} {h : Hp} (hR : RR E m σ τ h) {p : Nat} (hp : p < m) {n : Nat} (hn : 1 ≤ n ∧ n ≤ sNp σ) {g : Nat} (hgg : g < 8 * m) {w : Nat} (hw : σ.1 336 p = nI w) (hwl : w ≤ (sPb σ p).length) : Cn E mX7_takeOwn (rk 2 0 0) h [.ref (aX E), .ref (aP E p), .ref (aE E m n), .ref (aG E g)] (fun v h' => v = none ∧ RR E m (tkO σ p n g) τ h') := by
  refine Cn_of (by decide) rfl (by simp [Value.category]) (Nat.le_of_ble_eq_true rfl) ?_
  refine G_aload_n 1 rfl rfl dX7_takeOwn_0 ?_
  refine G_p1 4 rfl hR fl_X7_63 hp dX7_takeOwn_1 ?_
  refine G_iconst 5 rfl (3) (by decide) dX7_takeOwn_4 ?_
  refine G_callV 8 rfl [.int 3] (c_X6_become hR hp 3) ok_X6_become ov_X6_become ml_X7_107 (hR.ob (ci := 6) (i := p) (by decide) hp) ⟨by decide, rfl⟩ rfl ⟨by decide, by decide⟩ rfl rfl (Nat.le_of_ble_eq_true rfl) rfl dX7_takeOwn_5 ?_
  rintro v h ⟨rfl, hR⟩
  refine G_aload_n 9 rfl rfl dX7_takeOwn_8 ?_
  refine G_p2 12 rfl hR fl_X7_118 hp dX7_takeOwn_9 ?_
  refine G_aload_n 13 rfl rfl dX7_takeOwn_12 ?_
  refine G_gi 16 rfl hR 0 0 n 0 (σ.1 0 n) fl_X7_203 hn rfl rfl rfl rfl dX7_takeOwn_13 ?_
  refine G_aload_n 17 rfl rfl dX7_takeOwn_16 ?_
  refine G_gi 20 rfl hR 2 1 g 129 (σ.1 129 g) fl_X7_236 hgg rfl rfl rfl rfl dX7_takeOwn_17 ?_
  refine G_aload_n 21 rfl rfl dX7_takeOwn_20 ?_
  refine G_gi 24 rfl hR 2 0 g 128 (σ.1 128 g) fl_X7_273 hgg rfl rfl rfl rfl dX7_takeOwn_21 ?_
  refine G_iconst 25 rfl (1) (by decide) dX7_takeOwn_24 ?_
  refine G_icmp_ne 35 28 rfl (by decide) dX7_takeOwn_25 (fun c25 => ?_) (fun c25 => ?_)
  · skip
    refine G_iconst 36 rfl (0) (by decide) dX7_takeOwn_35 ?_
    refine G_aload_n 37 rfl rfl dX7_takeOwn_36 ?_
    refine G_p1 40 rfl hR fl_X7_63 hp dX7_takeOwn_37 ?_
    refine G_gi 43 rfl hR 6 1 p 385 (σ.1 385 p) fl_X7_67 hp rfl rfl rfl rfl dX7_takeOwn_40 ?_
    refine G_callV 46 rfl [.int (σ.1 0 n), .int (σ.1 129 g), .int 0, .int (σ.1 385 p)] (c_X3_set hR hp (σ.1 0 n) (σ.1 129 g) 0 (σ.1 385 p)) ok_X3_set ov_X3_set ml_X7_293 (hR.ob (ci := 3) (i := p) (by decide) hp) ⟨by decide, rfl⟩ rfl ⟨by decide, by decide⟩ rfl rfl (Nat.le_of_ble_eq_true rfl) rfl dX7_takeOwn_43 ?_
    rintro v h ⟨rfl, hR⟩
    refine G_aload_n 47 rfl rfl dX7_takeOwn_46 ?_
    refine G_callV 50 rfl [] (c_X5_beginWithdraw hR hp (w := w) hw hwl) ok_X5_beginWithdraw ov_X5_beginWithdraw ml_X7_104 (hR.ob (ci := 5) (i := p) (by decide) hp) ⟨by decide, rfl⟩ rfl ⟨by decide, by decide⟩ rfl rfl (Nat.le_of_ble_eq_true rfl) rfl dX7_takeOwn_47 ?_
    rintro v h ⟨rfl, hR⟩
    refine G_ret rfl ?_ dX7_takeOwn_50
    refine ⟨rfl, ?_⟩
    unfold tkO tell
    first | (rw [if_pos c25]; exact hR) | (rw [if_neg c25]; exact hR)
  · skip
    refine G_aload_n 29 rfl rfl dX7_takeOwn_28 ?_
    refine G_gi 32 rfl hR 0 4 n 4 (σ.1 4 n) fl_X7_297 hn rfl rfl rfl rfl dX7_takeOwn_29 ?_
    refine G_goto 36 (by decide) dX7_takeOwn_32 ?_
    refine G_aload_n 37 rfl rfl dX7_takeOwn_36 ?_
    refine G_p1 40 rfl hR fl_X7_63 hp dX7_takeOwn_37 ?_
    refine G_gi 43 rfl hR 6 1 p 385 (σ.1 385 p) fl_X7_67 hp rfl rfl rfl rfl dX7_takeOwn_40 ?_
    refine G_callV 46 rfl [.int (σ.1 0 n), .int (σ.1 129 g), .int (σ.1 4 n), .int (σ.1 385 p)] (c_X3_set hR hp (σ.1 0 n) (σ.1 129 g) (σ.1 4 n) (σ.1 385 p)) ok_X3_set ov_X3_set ml_X7_293 (hR.ob (ci := 3) (i := p) (by decide) hp) ⟨by decide, rfl⟩ rfl ⟨by decide, by decide⟩ rfl rfl (Nat.le_of_ble_eq_true rfl) rfl dX7_takeOwn_43 ?_
    rintro v h ⟨rfl, hR⟩
    refine G_aload_n 47 rfl rfl dX7_takeOwn_46 ?_
    refine G_callV 50 rfl [] (c_X5_beginWithdraw hR hp (w := w) hw hwl) ok_X5_beginWithdraw ov_X5_beginWithdraw ml_X7_104 (hR.ob (ci := 5) (i := p) (by decide) hp) ⟨by decide, rfl⟩ rfl ⟨by decide, by decide⟩ rfl rfl (Nat.le_of_ble_eq_true rfl) rfl dX7_takeOwn_47 ?_
    rintro v h ⟨rfl, hR⟩
    refine G_ret rfl ?_ dX7_takeOwn_50
    refine ⟨rfl, ?_⟩
    unfold tkO tell
    first | (rw [if_pos c25]; exact hR) | (rw [if_neg c25]; exact hR)
end
section
theorem drop_cons {l : List Nat} {a n : Nat} (h : l[a]? = some n) : l.drop a = n :: l.drop (a + 1) := by
  obtain ⟨h1, h2⟩ := List.getElem?_eq_some_iff.mp h
  rw [List.drop_eq_getElem_cons h1, h2]
set_option maxHeartbeats 4000000 in
set_option maxRecDepth 100000 in
theorem c_X1_at {E : Ev} {m : Nat} {σ : Sg} {τ : Tu} {h : Hp} (hR : RR E m σ τ h) {c : Nat} (hc : c < 8) (i : Int32) : Cn E mX1_at (rk 0 0 0) h [.ref (aLs E m c), .int i] (fun v h' => ((∃ j n, i = nI j ∧ (sLs σ c)[j]? = some n ∧ v = some (.ref (aE E m n))) ∨ ((i < 0 ∨ nI (sLs σ c).length ≤ i) ∧ v = some .null)) ∧ h' = h) := by
  refine Cn_of (by decide) rfl (by simp [Value.category]) (Nat.le_of_ble_eq_true rfl) ?_
  have hl := (hR.2.2.1.2.2.2.2.2.2.1 c hc).1
  refine G_iload_n 1 rfl rfl dX1_at_0 ?_
  refine G_if_lt 30 4 rfl (by decide) dX1_at_1 (fun c1 => ?_) (fun c1 => ?_)
  · skip
    refine G_null 31 rfl dX1_at_30 ?_
    refine G_aret rfl (Or.inl rfl) ?_ dX1_at_31
    exact ⟨Or.inr ⟨by first | exact Or.inl c1 | exact Or.inr c9, rfl⟩, rfl⟩
  · skip
    refine G_iload_n 5 rfl rfl dX1_at_4 ?_
    refine G_aload_n 6 rfl rfl dX1_at_5 ?_
    refine G_l1 9 rfl hR fl_X1_17 hc dX1_at_6 ?_
    refine G_icmp_ge 30 12 rfl (by decide) dX1_at_9 (fun c9 => ?_) (fun c9 => ?_)
    · skip
      refine G_null 31 rfl dX1_at_30 ?_
      refine G_aret rfl (Or.inl rfl) ?_ dX1_at_31
      exact ⟨Or.inr ⟨by first | exact Or.inl c1 | exact Or.inr c9, rfl⟩, rfl⟩
    · skip
      refine G_iload_n 13 rfl rfl dX1_at_12 ?_
      refine G_aload_n 14 rfl rfl dX1_at_13 ?_
      refine G_l0 17 rfl hR fl_X1_11 hc dX1_at_14 ?_
      refine G_lenLA 18 rfl hR hc dX1_at_17 ?_
      obtain ⟨j, hj, e⟩ := ix_of (by omega) c1 c9
      obtain ⟨n, hn⟩ : ∃ n, (sLs σ c)[j]? = some n := ⟨_, List.getElem?_eq_getElem hj⟩
      refine G_icmpF_ge 21 rfl (by rw [e]; exact nI_ge (b := 128) (by omega) (by omega)) ⟨30, by decide⟩ dX1_at_18 ?_
      refine G_aload_n 22 rfl rfl dX1_at_21 ?_
      refine G_l0 25 rfl hR fl_X1_11 hc dX1_at_22 ?_
      refine G_iload_n 26 rfl rfl dX1_at_25 ?_
      refine G_lAtS 27 rfl hR (j := j) e hc hn dX1_at_26 ?_
      refine G_goto 31 (by decide) dX1_at_27 ?_
      refine G_aret rfl (Or.inr ⟨_, rfl⟩) ?_ dX1_at_31
      exact ⟨Or.inl ⟨j, n, e, hn, rfl⟩, rfl⟩

set_option maxHeartbeats 4000000 in
set_option maxRecDepth 100000 in
theorem c_X1_append {E : Ev} {m : Nat} {σ : Sg} {τ : Tu} {h : Hp} (hR : RR E m σ τ h) {c : Nat} (hc : c < 8) {n : Nat} (hn : 1 ≤ n ∧ n ≤ sNp σ) (hl : (sLs σ c).length < 128) : Cn E mX1_append (rk 0 0 0) h [.ref (aLs E m c), .ref (aE E m n)] (fun v h' => v = none ∧ RR E m (uL σ c (sLs σ c ++ [n])) τ h') := by
  refine Cn_of (by decide) rfl (by simp [Value.category]) (Nat.le_of_ble_eq_true rfl) ?_
  refine G_aload_n 1 rfl rfl dX1_append_0 ?_
  refine G_l1 4 rfl hR fl_X1_17 hc dX1_append_1 ?_
  refine G_aload_n 5 rfl rfl dX1_append_4 ?_
  refine G_l0 8 rfl hR fl_X1_11 hc dX1_append_5 ?_
  refine G_lenLA 9 rfl hR hc dX1_append_8 ?_
  refine G_icmpF_ge 12 rfl (nI_ge (b := 128) hl (by omega)) ⟨32, by decide⟩ dX1_append_9 ?_
  refine G_aload_n 13 rfl rfl dX1_append_12 ?_
  refine G_l0 16 rfl hR fl_X1_11 hc dX1_append_13 ?_
  refine G_aload_n 17 rfl rfl dX1_append_16 ?_
  refine G_l1 20 rfl hR fl_X1_17 hc dX1_append_17 ?_
  refine G_aload_n 21 rfl rfl dX1_append_20 ?_
  refine G_aastore 22 rfl (ci := 11) (cv := 0) (b := aE E m n) (sLs σ c).length rfl (hR.obLA hc) (by decide) (by decide) (by decide) rfl (hR.ob (ci := 0) (i := n) (by decide) hn) (by rw [(hR.1.2.2.2.2.2.1 c hc).2]; exact hl) (by omega) dX1_append_21 ?_
  refine G_aload_n 23 rfl rfl dX1_append_22 ?_
  refine G_dup 24 rfl rfl dX1_append_23 ?_
  refine G_getI 27 rfl (ci := 1) (k := 1) fl_X1_17 rfl (hR.ob (ci := 1) (i := c) (by decide) hc) dX1_append_24 ?_
  rw [show (sQ h (aLA E m c) (sLs σ c).length (some (aE E m n))).1 (64 * 1 + 1) (aLs E m c) = nI (sLs σ c).length from (hR.2.2.1.2.2.2.2.2.2.1 c hc).2.1]
  refine G_iconst 28 rfl 1 (by decide) dX1_append_27 ?_
  refine G_iadd 29 rfl dX1_append_28 ?_
  refine G_putI 32 rfl (ci := 1) (k := 1) fl_X1_17 ⟨rfl, rfl, rfl⟩ (hR.ob (ci := 1) (i := c) (by decide) hc) dX1_append_29 ?_
  refine G_ret rfl ?_ dX1_append_32
  rw [nI_1]
  exact ⟨rfl, hR.appL hc hl⟩

set_option maxHeartbeats 4000000 in
set_option maxRecDepth 100000 in
theorem c_X5_keepEntry {E : Ev} {m : Nat} {σ : Sg} {τ : Tu} {h : Hp} (hR : RR E m σ τ h) {p : Nat} (hp : p < m) {n : Nat} (hn : 1 ≤ n ∧ n ≤ sNp σ) (hl : (sPb σ p).length < 8) : Cn E mX5_keepEntry (rk 0 0 0) h [.ref (aP E p), .ref (aE E m n)] (fun v h' => v = none ∧ RR E m (uP σ p (sPb σ p ++ [n])) τ h') := by
  refine Cn_of (by decide) rfl (by simp [Value.category]) (Nat.le_of_ble_eq_true rfl) ?_
  refine G_aload_n 1 rfl rfl dX5_keepEntry_0 ?_
  refine G_p15 4 rfl hR fl_X5_87 hp dX5_keepEntry_1 ?_
  refine G_aload_n 5 rfl rfl dX5_keepEntry_4 ?_
  refine G_p4 8 rfl hR fl_X5_33 hp dX5_keepEntry_5 ?_
  refine G_lenOA 9 rfl hR hp dX5_keepEntry_8 ?_
  refine G_icmpF_ge 12 rfl (nI_ge (b := 8) hl (by omega)) ⟨32, by decide⟩ dX5_keepEntry_9 ?_
  refine G_aload_n 13 rfl rfl dX5_keepEntry_12 ?_
  refine G_p4 16 rfl hR fl_X5_33 hp dX5_keepEntry_13 ?_
  refine G_aload_n 17 rfl rfl dX5_keepEntry_16 ?_
  refine G_p15 20 rfl hR fl_X5_87 hp dX5_keepEntry_17 ?_
  refine G_aload_n 21 rfl rfl dX5_keepEntry_20 ?_
  refine G_aastore 22 rfl (ci := 11) (cv := 0) (b := aE E m n) (sPb σ p).length rfl (hR.obOA hp) (by decide) (by decide) (by decide) rfl (hR.ob (ci := 0) (i := n) (by decide) hn) (by rw [(hR.1.2.2.2.1 p hp).2.2]; exact hl) (by omega) dX5_keepEntry_21 ?_
  refine G_aload_n 23 rfl rfl dX5_keepEntry_22 ?_
  refine G_dup 24 rfl rfl dX5_keepEntry_23 ?_
  refine G_getI 27 rfl (ci := 5) (k := 15) fl_X5_87 rfl (hR.ob (ci := 5) (i := p) (by decide) hp) dX5_keepEntry_24 ?_
  rw [show (sQ h (aOA E p) (sPb σ p).length (some (aE E m n))).1 (64 * 5 + 15) (aP E p) = nI (sPb σ p).length from (hR.2.2.1.2.2.2.2.2.2.2 p hp).2.1]
  refine G_iconst 28 rfl 1 (by decide) dX5_keepEntry_27 ?_
  refine G_iadd 29 rfl dX5_keepEntry_28 ?_
  refine G_putI 32 rfl (ci := 5) (k := 15) fl_X5_87 ⟨rfl, rfl, rfl⟩ (hR.ob (ci := 5) (i := p) (by decide) hp) dX5_keepEntry_29 ?_
  refine G_ret rfl ?_ dX5_keepEntry_32
  rw [nI_1]
  exact ⟨rfl, hR.keep hp hl⟩

set_option maxHeartbeats 4000000 in
set_option maxRecDepth 100000 in
theorem lp_X1_firstAbove {E : Ev} {m : Nat} {σ : Sg} {τ : Tu} {h : Hp} (hR : RR E m σ τ h) {c : Nat} (hc : c < 8) (k : Int32) (hv : ∀ n ∈ sLs σ c, 1 ≤ n ∧ n ≤ sNp σ) : ∀ (n a : Nat), a + n = (sLs σ c).length → ((sLs σ c).drop a).find? (fun n => decide (k < nI n)) = (sLs σ c).find? (fun n => decide (k < nI n)) → G E mX1_firstAbove (rk 1 0 0) (fun v h' => v = some (va_rf (((sLs σ c).find? (fun n => decide (k < nI n))).map (aE E m))) ∧ h' = h) 2 [some (.ref (aLs E m c)), some (.int k), some (.int (nI a)), none] [] h 0 0 := by
  intro n
  induction n with
  | zero =>
    intro a ha hb
    have hl := (hR.2.2.1.2.2.2.2.2.2.1 c hc).1
    refine G_iload_n 3 rfl rfl dX1_firstAbove_2 ?_
    refine G_aload_n 4 rfl rfl dX1_firstAbove_3 ?_
    refine G_l1 7 rfl hR fl_X1_17 hc dX1_firstAbove_4 ?_
    refine G_icmpT_ge 36 (nI_le (by omega) (by omega)) (by decide) dX1_firstAbove_7 ?_
    refine G_null 37 rfl dX1_firstAbove_36 ?_
    refine G_aret rfl (Or.inl rfl) ?_ dX1_firstAbove_37
    exact ⟨by rw [← hb, List.drop_eq_nil_of_le (by omega)]; rfl, rfl⟩
  | succ n ih =>
    intro a ha hb
    have hl := (hR.2.2.1.2.2.2.2.2.2.1 c hc).1
    refine G_iload_n 3 rfl rfl dX1_firstAbove_2 ?_
    refine G_aload_n 4 rfl rfl dX1_firstAbove_3 ?_
    refine G_l1 7 rfl hR fl_X1_17 hc dX1_firstAbove_4 ?_
    refine G_icmpF_ge 10 rfl (nI_ge (by omega) (by omega)) ⟨36, by decide⟩ dX1_firstAbove_7 ?_
    refine G_aload_n 11 rfl rfl dX1_firstAbove_10 ?_
    refine G_iload_n 12 rfl rfl dX1_firstAbove_11 ?_
    refine G_callV 15 rfl [.int (nI a)] (c_X1_at hR hc (nI a)) ok_X1_at ov_X1_at ml_X1_21 (hR.ob (ci := 1) (i := c) (by decide) hc) ⟨by decide, rfl⟩ rfl ⟨by decide, by decide⟩ rfl rfl (Nat.le_of_ble_eq_true rfl) rfl dX1_firstAbove_12 ?_
    rintro v h' ⟨⟨j, n, e, hj, rfl⟩ | ⟨e, rfl⟩, rfl⟩
    rotate_left
    · exact absurd e (fun z => z.elim (nI_pos (by omega)) (nI_ge (by omega) (by omega)))
    obtain rfl : a = j := (nI_eq (by omega) (by have := (List.getElem?_eq_some_iff.mp hj).1; omega)).mp e
    refine G_astore_n 16 rfl (by decide) dX1_firstAbove_15 ?_
    refine G_aload_n 17 rfl rfl dX1_firstAbove_16 ?_
    refine G_ifnull 20 rfl dX1_firstAbove_17 ?_
    refine G_aload_n 21 rfl rfl dX1_firstAbove_20 ?_
    refine G_e5 24 rfl hR fl_X1_25 (hv n (List.mem_of_getElem? hj)) dX1_firstAbove_21 ?_
    refine G_iload_n 25 rfl rfl dX1_firstAbove_24 ?_
    refine G_icmp_le 30 28 rfl (by decide) dX1_firstAbove_25 (fun c25 => ?_) (fun c25 => ?_)
    · skip
      refine G_iinc 33 rfl (nI (a + 1)) rfl (inc1 a) (by decide) dX1_firstAbove_30 ?_
      refine G_goto 2 (by decide) dX1_firstAbove_33 ?_
      refine G_lw [some (.ref (aLs E m c)), some (.int k), some (.int (nI (a + 1))), none] (by intro x y hx; rcases x with _ | _ | _ | _ | x <;> first | exact hx | cases hx) ?_
      exact ih (a + 1) (by omega) (by rw [← hb, drop_cons hj, List.find?_cons_of_neg (by simpa using c25)])
    · skip
      refine G_aload_n 29 rfl rfl dX1_firstAbove_28 ?_
      refine G_aret rfl (Or.inr ⟨_, rfl⟩) ?_ dX1_firstAbove_29
      exact ⟨by rw [← hb, drop_cons hj, List.find?_cons_of_pos (by simpa using c25)]; rfl, rfl⟩

set_option maxHeartbeats 4000000 in
set_option maxRecDepth 100000 in
theorem c_X1_firstAbove {E : Ev} {m : Nat} {σ : Sg} {τ : Tu} {h : Hp} (hR : RR E m σ τ h) {c : Nat} (hc : c < 8) (k : Int32) (hv : ∀ n ∈ sLs σ c, 1 ≤ n ∧ n ≤ sNp σ) : Cn E mX1_firstAbove (rk 1 0 0) h [.ref (aLs E m c), .int k] (fun v h' => v = some (va_rf (((sLs σ c).find? (fun n => decide (k < nI n))).map (aE E m))) ∧ h' = h) := by
  refine Cn_of (by decide) rfl (by simp [Value.category]) (Nat.le_of_ble_eq_true rfl) ?_
  refine G_iconst 1 rfl (0) (by decide) dX1_firstAbove_0 ?_
  refine G_istore_n 2 rfl (by decide) dX1_firstAbove_1 ?_
  exact lp_X1_firstAbove hR hc k hv (sLs σ c).length 0 (by omega) rfl
end
section
theorem uL_uL (σ : Sg) (c : Nat) (l l' : List Nat) : uL (uL σ c l) c l' = uL σ c l' := by
  unfold uL
  have : (fun q => if q = c then l' else if q = c then l else σ.2.2.1 q) = fun q => if q = c then l' else σ.2.2.1 q := by
    funext q; by_cases h : q = c <;> simp [h]
  simp only [this]
theorem uL_at (σ : Sg) (c : Nat) (l : List Nat) : sLs (uL σ c l) c = l := by simp [uL, sLs]
theorem uL_id (σ : Sg) (c : Nat) : uL σ c (sLs σ c) = σ := by
  have : (fun q => if q = c then sLs σ c else σ.2.2.1 q) = σ.2.2.1 := by
    funext q; by_cases h : q = c
    · subst h; simp
    · simp [h]
  unfold uL
  rw [this]
theorem G_setL {E : Ev} {M : MD} {R : Room} {Post : Option Value → Hp → Prop} {pc : Nat} {L : List (Option Value)} {st : List Value} {h : Hp} {ac as m : Nat} {σ : Sg} {τ : Tu} (pc' : Nat) (hp : pc + 1 = pc') (hR : RR E m σ τ h) {i : Int32} {c j n : Nat} (hi : i = nI j) (hc : c < 8) (hj : j < (sLs σ c).length) (hn : 1 ≤ n ∧ n ≤ sNp σ) (hd : decode M.2.2.1 pc = .ok (.aastore, 1)) (kk : ∀ h', RR E m (uL σ c ((sLs σ c).set j n)) τ h' → G E M R Post pc' L st h' ac as) : G E M R Post pc L (.ref (aE E m n) :: .int i :: .ref (aLA E m c) :: st) h ac as := by
  have hl := (hR.2.2.1.2.2.2.2.2.2.1 c hc).1
  exact G_aastore pc' hp (ci := 11) (cv := 0) (b := aE E m n) j hi (hR.obLA hc) (by decide) (by decide) (by decide) rfl (hR.ob (ci := 0) (i := n) (by decide) hn) (by rw [(hR.1.2.2.2.2.2.1 c hc).2]; omega) (by omega) hd (kk _ (hR.setL hc hj))
theorem RR.nulL {E : Ev} {m : Nat} {σ : Sg} {τ : Tu} {h : Hp} {c a : Nat} {v : Int32} (hR : RR E m σ τ (sI h 65 (aLs E m c) v)) (hc : c < 8) (ha : (sLs σ c).length ≤ a) : RR E m σ τ (sI (sQ h (aLA E m c) a none) 65 (aLs E m c) v) := by
  have c7 := hR.2.2.1.2.2.2.2.2.2.1 c hc
  have h1 := hR.relist (l := sLs σ c) (A1 := fun b j => if b = aLA E m c ∧ j = a then none else h.2.2.2.1 b j) hc c7.1 (fun b hb => by funext j; rw [if_neg (fun q => hb q.1)]; rfl) (fun j hj => by
    rw [if_neg (fun q => by omega)]
    exact c7.2.2 j hj)
  rw [uL_id] at h1
  rw [sI_id (h := ((sI h 65 (aLs E m c) v).1, (sI h 65 (aLs E m c) v).2.1, (sI h 65 (aLs E m c) v).2.2.1, fun b j => if b = aLA E m c ∧ j = a then none else h.2.2.2.1 b j, (sI h 65 (aLs E m c) v).2.2.2.2)) c7.2.1] at h1
  exact h1
/-- what drop leaves of a list -/
def fDr (l : List Nat) (k : Int32) : List Nat := l.filter (fun x => !decide (nI x = k))
theorem fDr_take {l : List Nat} {a n : Nat} (k : Int32) (h : l[a]? = some n) : fDr (l.take (a + 1)) k = if nI n = k then fDr (l.take a) k else fDr (l.take a) k ++ [n] := by
  have e : l.take (a + 1) = l.take a ++ [n] := by rw [List.take_add_one, h]; rfl
  unfold fDr
  rw [e, List.filter_append]
  by_cases q : nI n = k <;> simp [q]
theorem fDr_len {l : List Nat} (k : Int32) : (fDr l k).length ≤ l.length := List.length_filter_le _ _
set_option maxHeartbeats 4000000 in
set_option maxRecDepth 100000 in
theorem lp2_X1_drop {E : Ev} {m : Nat} {σ : Sg} {τ : Tu} {c : Nat} (hc : c < 8) (k : Int32) {b : Nat} (hb : (fDr (sLs σ c) k).length = b) (hl : (sLs σ c).length ≤ 128) : ∀ (r a : Nat), a + r = (sLs σ c).length → b ≤ a → ∀ (h : Hp), h.1 65 (aLs E m c) = nI (sLs σ c).length → RR E m (uL σ c (fDr (sLs σ c) k)) τ (sI h 65 (aLs E m c) (nI b)) → G E mX1_drop (rk 1 0 0) (fun v h' => v = none ∧ RR E m (uL σ c (fDr (sLs σ c) k)) τ h') 52 [some (.ref (aLs E m c)), some (.int k), some (.int (nI b)), some (.int (nI a)), none] [] h 0 0 := by
  intro r
  induction r with
  | zero =>
    intro a ha hba h hsz hR
    refine G_iload_n 53 rfl rfl dX1_drop_52 ?_
    refine G_aload_n 54 rfl rfl dX1_drop_53 ?_
    refine G_getI 57 rfl (ci := 1) (k := 1) fl_X1_17 rfl (hR.ob (ci := 1) (i := c) (by decide) hc) dX1_drop_54 ?_
    rw [show h.1 (64 * 1 + 1) (aLs E m c) = nI (sLs σ c).length from hsz]
    refine G_icmpT_ge 73 (nI_le (by omega) (by omega)) (by decide) dX1_drop_57 ?_
    refine G_aload_n 74 rfl rfl dX1_drop_73 ?_
    refine G_iload_n 75 rfl rfl dX1_drop_74 ?_
    refine G_putI 78 rfl (ci := 1) (k := 1) fl_X1_17 ⟨rfl, rfl, rfl⟩ (hR.ob (ci := 1) (i := c) (by decide) hc) dX1_drop_75 ?_
    refine G_ret rfl ?_ dX1_drop_78
    exact ⟨rfl, hR⟩
  | succ r ih =>
    intro a ha hba h hsz hR
    refine G_iload_n 53 rfl rfl dX1_drop_52 ?_
    refine G_aload_n 54 rfl rfl dX1_drop_53 ?_
    refine G_getI 57 rfl (ci := 1) (k := 1) fl_X1_17 rfl (hR.ob (ci := 1) (i := c) (by decide) hc) dX1_drop_54 ?_
    rw [show h.1 (64 * 1 + 1) (aLs E m c) = nI (sLs σ c).length from hsz]
    refine G_icmpF_ge 60 rfl (nI_ge (by omega) (by omega)) ⟨73, by decide⟩ dX1_drop_57 ?_
    refine G_aload_n 61 rfl rfl dX1_drop_60 ?_
    refine G_getR 64 rfl (ci := 1) (k := 0) fl_X1_11 rfl (hR.ob (ci := 1) (i := c) (by decide) hc) (hR.2.1.2.2.2.2.1 c hc).2 dX1_drop_61 ?_
    refine G_iload_n 65 rfl rfl dX1_drop_64 ?_
    refine G_null 66 rfl dX1_drop_65 ?_
    refine G_aastoreN 67 rfl (ci := 11) a rfl (hR.obLA hc) (by decide) (by decide) rfl (by rw [(hR.1.2.2.2.2.2.1 c hc).2]; omega) (by omega) dX1_drop_66 ?_
    refine G_iinc 70 rfl (nI (a + 1)) rfl (inc1 a) (by decide) dX1_drop_67 ?_
    refine G_goto 52 (by decide) dX1_drop_70 ?_
    exact ih (a + 1) (by omega) (by omega) _ hsz (hR.nulL hc (by rw [uL_at]; omega))
set_option maxHeartbeats 4000000 in
set_option maxRecDepth 100000 in
theorem lp_X1_drop {E : Ev} {m : Nat} {σ : Sg} {τ : Tu} {c : Nat} (hc : c < 8) (k : Int32) (hv : ∀ n ∈ sLs σ c, 1 ≤ n ∧ n ≤ sNp σ) (hl : (sLs σ c).length ≤ 128) : ∀ (r a : Nat), a + r = (sLs σ c).length → ∀ (cur : List Nat) (b : Nat) (h : Hp), RR E m (uL σ c cur) τ h → cur.length = (sLs σ c).length → cur.drop a = (sLs σ c).drop a → cur.take b = fDr ((sLs σ c).take a) k → b = (fDr ((sLs σ c).take a) k).length → G E mX1_drop (rk 1 0 0) (fun v h' => v = none ∧ RR E m (uL σ c (fDr (sLs σ c) k)) τ h') 4 [some (.ref (aLs E m c)), some (.int k), some (.int (nI b)), some (.int (nI a)), none] [] h 0 0 := by
  intro r
  induction r with
  | zero =>
    intro a ha cur b h hR i1 i2 i3 i4
    have e0 : (sLs σ c).take a = sLs σ c := List.take_of_length_le (by omega)
    rw [e0] at i3 i4
    have hb := fDr_len (l := sLs σ c) k
    refine G_iload_n 5 rfl rfl dX1_drop_4 ?_
    refine G_aload_n 6 rfl rfl dX1_drop_5 ?_
    refine G_l1 9 rfl hR fl_X1_17 hc dX1_drop_6 ?_
    refine G_icmpT_ge 50 (by rw [uL_at, i1]; exact nI_le (by omega) (by omega)) (by decide) dX1_drop_9 ?_
    refine G_iload_n 51 rfl rfl dX1_drop_50 ?_
    refine G_istore_n 52 rfl (by decide) dX1_drop_51 ?_
    have hsz : h.1 65 (aLs E m c) = nI (sLs σ c).length := by
      have := (hR.2.2.1.2.2.2.2.2.2.1 c hc).2.1
      rw [uL_at, i1] at this
      exact this
    refine lp2_X1_drop (σ := σ) hc k i4.symm hl ((sLs σ c).length - b) b (by omega) (Nat.le_refl _) h hsz ?_
    have c7 := hR.2.2.1.2.2.2.2.2.2.1 c hc
    rw [uL_at] at c7
    have h1 := hR.relist (l := fDr (sLs σ c) k) (A1 := h.2.2.2.1) hc (by omega) (fun _ _ => rfl) (fun j hj => by
      rw [c7.2.2 j (by omega), ← i3, List.getElem?_take_of_lt (by omega)])
    rw [uL_uL, ← i4] at h1
    exact h1
  | succ r ih =>
    intro a ha cur b h hR i1 i2 i3 i4
    have hb := fDr_len (l := (sLs σ c).take a) k
    rw [List.length_take] at hb
    refine G_iload_n 5 rfl rfl dX1_drop_4 ?_
    refine G_aload_n 6 rfl rfl dX1_drop_5 ?_
    refine G_l1 9 rfl hR fl_X1_17 hc dX1_drop_6 ?_
    refine G_icmpF_ge 12 rfl (by rw [uL_at, i1]; exact nI_ge (by omega) (by omega)) ⟨50, by decide⟩ dX1_drop_9 ?_
    refine G_aload_n 13 rfl rfl dX1_drop_12 ?_
    refine G_iload_n 14 rfl rfl dX1_drop_13 ?_
    refine G_callV 17 rfl [.int (nI a)] (c_X1_at hR hc (nI a)) ok_X1_at ov_X1_at ml_X1_21 (hR.ob (ci := 1) (i := c) (by decide) hc) ⟨by decide, rfl⟩ rfl ⟨by decide, by decide⟩ rfl rfl (Nat.le_of_ble_eq_true rfl) rfl dX1_drop_14 ?_
    rintro v h' ⟨⟨j, n, e, hj, rfl⟩ | ⟨e, rfl⟩, rfl⟩
    rotate_left
    · exact absurd e (fun z => z.elim (nI_pos (by omega)) (by rw [uL_at, i1]; exact nI_ge (by omega) (by omega)))
    rw [uL_at] at hj
    obtain rfl : a = j := (nI_eq (by omega) (by have := (List.getElem?_eq_some_iff.mp hj).1; omega)).mp e
    have hja : (sLs σ c)[a]? = some n := by
      have q1 : (cur.drop a)[0]? = some n := by rw [List.getElem?_drop]; exact hj
      rw [i2, List.getElem?_drop] at q1
      exact q1
    have hvn : 1 ≤ n ∧ n ≤ sNp σ := hv n (List.mem_of_getElem? hja)
    have ed : cur.drop (a + 1) = (sLs σ c).drop (a + 1) := by
      rw [← List.drop_drop, ← List.drop_drop, i2]
    refine G_astore 19 rfl (by decide) dX1_drop_17 ?_
    refine G_aload 21 rfl rfl dX1_drop_19 ?_
    refine G_ifnull 24 rfl dX1_drop_21 ?_
    refine G_aload 26 rfl rfl dX1_drop_24 ?_
    refine G_e5 29 rfl hR fl_X1_25 hvn dX1_drop_26 ?_
    refine G_iload_n 30 rfl rfl dX1_drop_29 ?_
    refine G_icmp_eq 44 33 rfl (by decide) dX1_drop_30 (fun c30 => ?_) (fun c30 => ?_)
    · skip
      refine G_iinc 47 rfl (nI (a + 1)) rfl (inc1 a) (by decide) dX1_drop_44 ?_
      refine G_goto 4 (by decide) dX1_drop_47 ?_
      refine G_lw [some (.ref (aLs E m c)), some (.int k), some (.int (nI b)), some (.int (nI (a + 1))), none] (by intro x y hx; rcases x with _ | _ | _ | _ | _ | x <;> first | exact hx | cases hx) ?_
      exact ih (a + 1) (by omega) cur b _ hR i1 ed (by rw [fDr_take k hja, if_pos c30]; exact i3) (by rw [fDr_take k hja, if_pos c30]; exact i4)
    · skip
      refine G_aload_n 34 rfl rfl dX1_drop_33 ?_
      refine G_l0 37 rfl hR fl_X1_11 hc dX1_drop_34 ?_
      refine G_iload_n 38 rfl rfl dX1_drop_37 ?_
      refine G_aload 40 rfl rfl dX1_drop_38 ?_
      refine G_setL 41 rfl hR (j := b) rfl hc (by rw [uL_at]; omega) hvn dX1_drop_40 (fun h hR => ?_)
      rw [uL_at, uL_uL] at hR
      refine G_iinc 44 rfl (nI (b + 1)) rfl (inc1 b) (by decide) dX1_drop_41 ?_
      refine G_iinc 47 rfl (nI (a + 1)) rfl (inc1 a) (by decide) dX1_drop_44 ?_
      refine G_goto 4 (by decide) dX1_drop_47 ?_
      refine G_lw [some (.ref (aLs E m c)), some (.int k), some (.int (nI (b + 1))), some (.int (nI (a + 1))), none] (by intro x y hx; rcases x with _ | _ | _ | _ | _ | x <;> first | exact hx | cases hx) ?_
      refine ih (a + 1) (by omega) (cur.set b n) (b + 1) h hR (by rw [List.length_set]; exact i1) (by rw [List.drop_set_of_lt (by omega)]; exact ed) ?_ ?_
      · rw [fDr_take k hja, if_neg c30, ← i3, List.take_add_one, List.getElem?_set_self (by omega), List.take_set_of_le (Nat.le_refl b)]
        rfl
      · rw [fDr_take k hja, if_neg c30, List.length_append, ← i4]
        rfl
set_option maxHeartbeats 4000000 in
set_option maxRecDepth 100000 in
theorem c_X1_drop {E : Ev} {m : Nat} {σ : Sg} {τ : Tu} {h : Hp} (hR : RR E m σ τ h) {c : Nat} (hc : c < 8) (k : Int32) (hv : ∀ n ∈ sLs σ c, 1 ≤ n ∧ n ≤ sNp σ) : Cn E mX1_drop (rk 1 0 0) h [.ref (aLs E m c), .int k] (fun v h' => v = none ∧ RR E m (uL σ c (fDr (sLs σ c) k)) τ h') := by
  refine Cn_of (by decide) rfl (by simp [Value.category]) (Nat.le_of_ble_eq_true rfl) ?_
  refine G_iconst 1 rfl (0) (by decide) dX1_drop_0 ?_
  refine G_istore_n 2 rfl (by decide) dX1_drop_1 ?_
  refine G_iconst 3 rfl (0) (by decide) dX1_drop_2 ?_
  refine G_istore_n 4 rfl (by decide) dX1_drop_3 ?_
  exact lp_X1_drop hc k hv (hR.2.2.1.2.2.2.2.2.2.1 c hc).1 (sLs σ c).length 0 (by omega) (sLs σ c) 0 h (by rw [uL_id]; exact hR) rfl rfl rfl rfl
end
section
/-- what publishing an entry of the guard g = 8 * p + j does, up to the list -/
def pubA (σ : Sg) (p g : Nat) : Sg := eNw (up σ 453 0 (σ.1 453 0 + 1)) (fun k => if k = 0 then nI p else if k = 1 then σ.1 385 p else if k = 2 then (up σ 453 0 (σ.1 453 0 + 1)).1 128 g else if k = 3 then (up σ 453 0 (σ.1 453 0 + 1)).1 129 g else (up σ 453 0 (σ.1 453 0 + 1)).1 130 g)
def pubB (σ : Sg) (p j c : Nat) : Sg := uP (uL (pubA σ p (8 * p + j)) c (sLs σ c ++ [sNp σ + 1])) p (sPb σ p ++ [sNp σ + 1])
def pubS (σ : Sg) (p j c : Nat) : Sg := match nxt (pubB σ p j c) p (cN (σ.1 329 p) + 1) with
  | none => lkFF (pubB σ p j c) p
  | some i => up (pubB σ p j c) 329 p (nI i)
def lkS (σ : Sg) (p j c : Nat) : Sg := match (sLs σ c).find? (fun n => decide (σ.1 330 p < nI n)) with
  | none => lkNx σ p
  | some n => if ¬ σ.1 0 n = nI p ∧ ¬ σ.1 2 n = σ.1 128 (8 * p + j) then up (uM (up σ 330 p (nI n)) p (some n)) 325 p 4 else up σ 330 p (nI n)
def wdS (σ : Sg) (p n c : Nat) : Sg := bWd (up (uL σ c (fDr (sLs σ c) (nI n))) 336 p (σ.1 336 p + 1)) p
set_option maxHeartbeats 4000000 in
set_option maxRecDepth 100000 in
theorem c_X7_publishEntry {E : Ev} {m : Nat} {σ : Sg} {τ : Tu} {h : Hp} (hR : RR E m σ τ h) {p : Nat} (hp : p < m) {g : Nat} (hg : σ.1 326 p = nI g) (hg8 : g ≤ 8) {j : Nat} (hj : σ.1 329 p = nI j) (hjg : j < g) {c : Nat} (hch : σ.1 129 (8 * p + j) = nI c) (hc : c < 8) (hnp0 : σ.1 453 0 = nI (sNp σ)) (hll : (sLs σ c).length < 128) (hpl8 : (sPb σ p).length < 8) : Cn E mX7_publishEntry (rk 3 1 6) h [.ref (aX E), .ref (aP E p)] (fun v h' => v = none ∧ RR E m (pubS σ p j c) τ h') := by
  refine Cn_of (by decide) rfl (by simp [Value.category]) (Nat.le_of_ble_eq_true rfl) ?_
  have hm := hR.1.1
  refine G_aload_n 1 rfl rfl dX7_publishEntry_0 ?_
  refine G_callV 4 rfl [] (c_X5_currentGuard hR hp hg hg8 hj hjg) ok_X5_currentGuard ov_X5_currentGuard ml_X7_195 (hR.ob (ci := 5) (i := p) (by decide) hp) ⟨by decide, rfl⟩ rfl ⟨by decide, by decide⟩ rfl rfl (Nat.le_of_ble_eq_true rfl) rfl dX7_publishEntry_1 ?_
  rintro v h' ⟨rfl, rfl⟩
  refine G_astore_n 5 rfl (by decide) dX7_publishEntry_4 ?_
  refine G_aload_n 6 rfl rfl dX7_publishEntry_5 ?_
  refine G_ifnonnull 13 (by decide) dX7_publishEntry_6 ?_
  refine G_aload_n 14 rfl rfl dX7_publishEntry_13 ?_
  refine G_aload_n 15 rfl rfl dX7_publishEntry_14 ?_
  refine G_gi 18 rfl hR 2 1 (8 * p + j) 129 (σ.1 129 (8 * p + j)) fl_X7_236 (gvd hp (by omega)) rfl rfl rfl rfl dX7_publishEntry_15 ?_
  refine G_callV 21 rfl [.int (σ.1 129 (8 * p + j))] (c_X7_listAt hR (σ.1 129 (8 * p + j))) ok_X7_listAt ov_X7_listAt ml_X7_52 (hR.ob (ci := 7) (i := 0) (by decide) rfl) ⟨by decide, rfl⟩ rfl ⟨by decide, by decide⟩ rfl rfl (Nat.le_of_ble_eq_true rfl) rfl dX7_publishEntry_18 ?_
  rintro v h' ⟨⟨c', hc', e', rfl⟩ | ⟨e', rfl⟩, rfl⟩
  rotate_left
  · exact absurd e' (by rw [hch]; exact fun z => z.elim (nI_pos (by omega)) (nI_ge hc (by omega)))
  obtain rfl : c = c' := (nI_eq (by omega) (by omega)).mp (hch.symm.trans e')
  refine G_astore_n 22 rfl (by decide) dX7_publishEntry_21 ?_
  refine G_aload_n 23 rfl rfl dX7_publishEntry_22 ?_
  refine G_ifnull 26 rfl dX7_publishEntry_23 ?_
  refine G_aload_n 27 rfl rfl dX7_publishEntry_26 ?_
  refine G_ifnull 30 rfl dX7_publishEntry_27 ?_
  refine G_aload_n 31 rfl rfl dX7_publishEntry_30 ?_
  refine G_dup 32 rfl rfl dX7_publishEntry_31 ?_
  refine G_gi 35 rfl hR 7 5 0 453 (σ.1 453 0) fl_X7_153 rfl rfl rfl rfl rfl dX7_publishEntry_32 ?_
  refine G_iconst 36 rfl (1) (by decide) dX7_publishEntry_35 ?_
  refine G_iadd 37 rfl dX7_publishEntry_36 ?_
  refine G_pi 40 rfl hR 7 5 0 453 fl_X7_153 rfl rfl ⟨rfl, rfl⟩ rfl rfl dX7_publishEntry_37 (fun h hR => ?_)
  have hnp : hn h = aE E m (sNp σ + 1) := hR.2.2.1.1
  have hgl : aG E (8 * p + j) < hn h := (ad_in hR.2.2.1 (ci := 2) (i := 8 * p + j) (gvd hp (by omega))).2
  have hpl : aP E p < hn h := (ad_in hR.2.2.1 (ci := 5) (i := p) hp).2
  have hwd : aW E p < hn h := (ad_in hR.2.2.1 (ci := 6) (i := p) hp).2
  have hxl : aX E < hn h := (ad_in hR.2.2.1 (ci := 7) (i := 0) rfl).2
  refine G_new 43 rfl (ci := 0) (by decide) cl_X7_130 w_in0 w_it0 (by rw [hnp]; exact hR.1.2.1 0 (sNp σ + 1) (sNp σ + 1) (by decide) ⟨by omega, Nat.le_refl _⟩) (ac' := 0) (as' := 0) rfl rfl dX7_publishEntry_40 ?_
  refine G_dup 44 rfl rfl dX7_publishEntry_43 ?_
  refine G_aload_n 45 rfl rfl dX7_publishEntry_44 ?_
  refine G_getI 48 rfl (ci := 5) (k := 0) fl_X7_241 rfl ⟨(hR.ob (ci := 5) (i := p) (by decide) hp).1, (hR.ob (ci := 5) (i := p) (by decide) hp).2.1, Nat.lt_succ_of_lt hpl⟩ dX7_publishEntry_45 ?_
  rw [sN_1 (Nat.ne_of_lt hpl), show h.1 (64 * 5 + 0) (aP E p) = nI p from hR.2.2.1.2.2.2.1 p hp]
  refine G_aload_n 49 rfl rfl dX7_publishEntry_48 ?_
  refine G_getR 52 rfl (ci := 5) (k := 1) (b := aW E p) fl_X7_63 rfl ⟨(hR.ob (ci := 5) (i := p) (by decide) hp).1, (hR.ob (ci := 5) (i := p) (by decide) hp).2.1, Nat.lt_succ_of_lt hpl⟩ (by rw [sN_2 (Nat.ne_of_lt hpl)]; exact (hR.2.1.2.2.1 p hp).1) dX7_publishEntry_49 ?_
  refine G_getI 55 rfl (ci := 6) (k := 1) fl_X7_67 rfl ⟨(hR.ob (ci := 6) (i := p) (by decide) hp).1, (hR.ob (ci := 6) (i := p) (by decide) hp).2.1, Nat.lt_succ_of_lt hwd⟩ dX7_publishEntry_52 ?_
  rw [sN_1 (Nat.ne_of_lt hwd), show h.1 (64 * 6 + 1) (aW E p) = σ.1 385 p from hR.2.2.1.2.1 6 1 p hp rfl]
  refine G_aload_n 56 rfl rfl dX7_publishEntry_55 ?_
  refine G_aload_n 57 rfl rfl dX7_publishEntry_56 ?_
  refine G_getI 60 rfl (ci := 7) (k := 5) fl_X7_153 rfl ⟨(hR.ob (ci := 7) (i := 0) (by decide) rfl).1, (hR.ob (ci := 7) (i := 0) (by decide) rfl).2.1, Nat.lt_succ_of_lt hxl⟩ dX7_publishEntry_57 ?_
  rw [sN_1 (Nat.ne_of_lt hxl), show h.1 (64 * 7 + 5) (aX E) = nI (sNp σ + 1) from (hR.2.2.1.2.1 7 5 0 rfl rfl).trans (by rw [← nI_1, ← hnp0]; exact up_same _ _ _ _)]
  refine G_callI 63 rfl [.int (nI p), .int (σ.1 385 p), .ref (aG E (8 * p + j)), .int (nI (sNp σ + 1))] (c_X0_init (h := sN h) (a := hn h) (g := aG E (8 * p + j)) ⟨by rw [hnp]; exact hR.1.2.1 0 (sNp σ + 1) (sNp σ + 1) (by decide) ⟨by omega, Nat.le_refl _⟩, by rw [hnp]; simp only [aE]; omega, Nat.lt_succ_self _⟩ ⟨(hR.ob (ci := 2) (i := 8 * p + j) (by decide) (gvd hp (by omega))).1, (hR.ob (ci := 2) (i := 8 * p + j) (by decide) (gvd hp (by omega))).2.1, Nat.lt_succ_of_lt hgl⟩ (nI p) (σ.1 385 p) (nI (sNp σ + 1))) ok_X0_init oi_X0_init rfl rfl ml_X7_244 rfl ⟨by decide, by decide⟩ rfl rfl (Nat.le_of_ble_eq_true rfl) rfl dX7_publishEntry_60 ?_
  rintro v h' ⟨rfl, rfl⟩
  have hR := (show RR E m (pubA σ p (8 * p + j)) τ (iE (sN h) (hn h) (aG E (8 * p + j)) (nI p) (σ.1 385 p) (nI (sNp σ + 1))) from hR.newE (gvd hp (show j < 8 by omega)) (nI p) (σ.1 385 p))
  generalize iE (sN h) (hn h) (aG E (8 * p + j)) (nI p) (σ.1 385 p) (nI (sNp σ + 1)) = h2 at hR ⊢
  rw [hnp]
  have hvn : 1 ≤ sNp σ + 1 ∧ sNp σ + 1 ≤ sNp (pubA σ p (8 * p + j)) := ⟨by omega, Nat.le_refl _⟩
  refine G_astore 65 rfl (by decide) dX7_publishEntry_63 ?_
  refine G_aload_n 66 rfl rfl dX7_publishEntry_65 ?_
  refine G_aload 68 rfl rfl dX7_publishEntry_66 ?_
  refine G_callV 71 rfl [.ref (aE E m (sNp σ + 1))] (c_X1_append hR hc hvn (by exact hll)) ok_X1_append ov_X1_append ml_X7_247 (hR.ob (ci := 1) (i := c) (by decide) hc) ⟨by decide, rfl⟩ rfl ⟨by decide, by decide⟩ rfl rfl (Nat.le_of_ble_eq_true rfl) rfl dX7_publishEntry_68 ?_
  rintro v h ⟨rfl, hR⟩
  refine G_aload_n 72 rfl rfl dX7_publishEntry_71 ?_
  refine G_aload 74 rfl rfl dX7_publishEntry_72 ?_
  refine G_callV 77 rfl [.ref (aE E m (sNp σ + 1))] (c_X5_keepEntry hR hp hvn (by exact hpl8)) ok_X5_keepEntry ov_X5_keepEntry ml_X7_251 (hR.ob (ci := 5) (i := p) (by decide) hp) ⟨by decide, rfl⟩ rfl ⟨by decide, by decide⟩ rfl rfl (Nat.le_of_ble_eq_true rfl) rfl dX7_publishEntry_74 ?_
  rintro v h ⟨rfl, hR⟩
  change RR E m (pubB σ p j c) τ h at hR
  refine G_aload_n 78 rfl rfl dX7_publishEntry_77 ?_
  refine G_aload_n 79 rfl rfl dX7_publishEntry_78 ?_
  refine G_gi 82 rfl hR 5 9 p 329 (σ.1 329 p) fl_X7_254 hp rfl rfl rfl rfl dX7_publishEntry_79 ?_
  refine G_iconst 83 rfl (1) (by decide) dX7_publishEntry_82 ?_
  refine G_iadd 84 rfl dX7_publishEntry_83 ?_
  rw [show σ.1 329 p + 1 = nI (j + 1) by rw [hj]; exact nI_1 j]
  refine G_callV 87 rfl [.int (nI (j + 1))] (c_X5_nextOn hR hp (g := g) hg hg8 (j + 1) (by omega)) ok_X5_nextOn ov_X5_nextOn ml_X7_256 (hR.ob (ci := 5) (i := p) (by decide) hp) ⟨by decide, rfl⟩ rfl ⟨by decide, by decide⟩ rfl rfl (Nat.le_of_ble_eq_true rfl) rfl dX7_publishEntry_84 ?_
  rintro v h' ⟨rfl, rfl⟩
  rw [show fOn (fun i => (pubB σ p j c).1 131 (8 * p + i)) (g - (j + 1)) (j + 1) = fOn (fun i => σ.1 131 (8 * p + i)) (g - (j + 1)) (j + 1) from rfl]
  rcases hq : fOn (fun i => σ.1 131 (8 * p + i)) (g - (j + 1)) (j + 1) with _ | i
  · skip
    refine G_istore 89 rfl (by decide) dX7_publishEntry_87 ?_
    refine G_iload 91 rfl rfl dX7_publishEntry_89 ?_
    refine G_iconst 92 rfl (-1) (by decide) dX7_publishEntry_91 ?_
    refine G_icmpF_ne 95 rfl rfl ⟨102, by decide⟩ dX7_publishEntry_92 ?_
    refine G_aload_n 96 rfl rfl dX7_publishEntry_95 ?_
    refine G_callV 99 rfl [] (c_X5_lookFromFirst hR hp (g := g) hg hg8) ok_X5_lookFromFirst ov_X5_lookFromFirst ml_X7_259 (hR.ob (ci := 5) (i := p) (by decide) hp) ⟨by decide, rfl⟩ rfl ⟨by decide, by decide⟩ rfl rfl (Nat.le_of_ble_eq_true rfl) rfl dX7_publishEntry_96 ?_
    rintro v h ⟨rfl, hR⟩
    refine G_goto 108 (by decide) dX7_publishEntry_99 ?_
    refine G_ret rfl ?_ dX7_publishEntry_108
    refine ⟨rfl, ?_⟩
    unfold pubS nxt
    rw [show (pubB σ p j c).1 326 p = nI g from hg, cN_nI (by omega), hj, cN_nI (by omega), show fOn (fun i => (pubB σ p j c).1 131 (8 * p + i)) (g - (j + 1)) (j + 1) = fOn (fun i => σ.1 131 (8 * p + i)) (g - (j + 1)) (j + 1) from rfl, hq]
    exact hR
  · skip
    have hb := fOn_some hq
    refine G_istore 89 rfl (by decide) dX7_publishEntry_87 ?_
    refine G_iload 91 rfl rfl dX7_publishEntry_89 ?_
    refine G_iconst 92 rfl (-1) (by decide) dX7_publishEntry_91 ?_
    refine G_icmpT_ne 102 (oI_m1 (by omega)) (by decide) dX7_publishEntry_92 ?_
    refine G_aload_n 103 rfl rfl dX7_publishEntry_102 ?_
    refine G_iload 105 rfl rfl dX7_publishEntry_103 ?_
    refine G_pi 108 rfl hR 5 9 p 329 fl_X7_254 hp rfl ⟨rfl, rfl⟩ rfl rfl dX7_publishEntry_105 (fun h hR => ?_)
    refine G_ret rfl ?_ dX7_publishEntry_108
    refine ⟨rfl, ?_⟩
    unfold pubS nxt
    rw [show (pubB σ p j c).1 326 p = nI g from hg, cN_nI (by omega), hj, cN_nI (by omega), show fOn (fun i => (pubB σ p j c).1 131 (8 * p + i)) (g - (j + 1)) (j + 1) = fOn (fun i => σ.1 131 (8 * p + i)) (g - (j + 1)) (j + 1) from rfl, hq]
    exact hR

set_option maxHeartbeats 4000000 in
set_option maxRecDepth 100000 in
theorem c_X7_lookOn {E : Ev} {m : Nat} {σ : Sg} {τ : Tu} {h : Hp} (hR : RR E m σ τ h) {p : Nat} (hp : p < m) {g : Nat} (hg : σ.1 326 p = nI g) (hg8 : g ≤ 8) {j : Nat} (hj : σ.1 329 p = nI j) (hjg : j < g) {c : Nat} (hch : σ.1 129 (8 * p + j) = nI c) (hc : c < 8) (hv : ∀ n ∈ sLs σ c, 1 ≤ n ∧ n ≤ sNp σ) : Cn E mX7_lookOn (rk 3 0 0) h [.ref (aX E), .ref (aP E p)] (fun v h' => v = none ∧ RR E m (lkS σ p j c) τ h') := by
  refine Cn_of (by decide) rfl (by simp [Value.category]) (Nat.le_of_ble_eq_true rfl) ?_
  refine G_aload_n 1 rfl rfl dX7_lookOn_0 ?_
  refine G_callV 4 rfl [] (c_X5_currentGuard hR hp hg hg8 hj hjg) ok_X5_currentGuard ov_X5_currentGuard ml_X7_195 (hR.ob (ci := 5) (i := p) (by decide) hp) ⟨by decide, rfl⟩ rfl ⟨by decide, by decide⟩ rfl rfl (Nat.le_of_ble_eq_true rfl) rfl dX7_lookOn_1 ?_
  rintro v h' ⟨rfl, rfl⟩
  refine G_astore_n 5 rfl (by decide) dX7_lookOn_4 ?_
  refine G_aload_n 6 rfl rfl dX7_lookOn_5 ?_
  refine G_ifnonnull 13 (by decide) dX7_lookOn_6 ?_
  refine G_aload_n 14 rfl rfl dX7_lookOn_13 ?_
  refine G_aload_n 15 rfl rfl dX7_lookOn_14 ?_
  refine G_gi 18 rfl hR 2 1 (8 * p + j) 129 (σ.1 129 (8 * p + j)) fl_X7_236 (gvd hp (by omega)) rfl rfl rfl rfl dX7_lookOn_15 ?_
  refine G_callV 21 rfl [.int (σ.1 129 (8 * p + j))] (c_X7_listAt hR (σ.1 129 (8 * p + j))) ok_X7_listAt ov_X7_listAt ml_X7_52 (hR.ob (ci := 7) (i := 0) (by decide) rfl) ⟨by decide, rfl⟩ rfl ⟨by decide, by decide⟩ rfl rfl (Nat.le_of_ble_eq_true rfl) rfl dX7_lookOn_18 ?_
  rintro v h' ⟨⟨c', hc', e', rfl⟩ | ⟨e', rfl⟩, rfl⟩
  rotate_left
  · exact absurd e' (by rw [hch]; exact fun z => z.elim (nI_pos (by omega)) (nI_ge hc (by omega)))
  obtain rfl : c = c' := (nI_eq (by omega) (by omega)).mp (hch.symm.trans e')
  refine G_astore_n 22 rfl (by decide) dX7_lookOn_21 ?_
  refine G_aload_n 23 rfl rfl dX7_lookOn_22 ?_
  refine G_ifnonnull 30 (by decide) dX7_lookOn_23 ?_
  refine G_aload_n 31 rfl rfl dX7_lookOn_30 ?_
  refine G_aload_n 32 rfl rfl dX7_lookOn_31 ?_
  refine G_gi 35 rfl hR 5 10 p 330 (σ.1 330 p) fl_X7_262 hp rfl rfl rfl rfl dX7_lookOn_32 ?_
  refine G_callV 38 rfl [.int (σ.1 330 p)] (c_X1_firstAbove hR hc (σ.1 330 p) hv) ok_X1_firstAbove ov_X1_firstAbove ml_X7_265 (hR.ob (ci := 1) (i := c) (by decide) hc) ⟨by decide, rfl⟩ rfl ⟨by decide, by decide⟩ rfl rfl (Nat.le_of_ble_eq_true rfl) rfl dX7_lookOn_35 ?_
  rintro v h' ⟨rfl, rfl⟩
  rcases hq : (sLs σ c).find? (fun n => decide (σ.1 330 p < nI n)) with _ | n
  · skip
    refine G_astoreN 40 rfl (by decide) dX7_lookOn_38 ?_
    refine G_aload_n 41 rfl rfl dX7_lookOn_40 ?_
    refine G_ifnull 44 rfl dX7_lookOn_41 ?_
    refine G_aloadN 46 rfl rfl dX7_lookOn_44 ?_
    refine G_ifnonnullN 49 rfl dX7_lookOn_46 ?_
    refine G_aload_n 50 rfl rfl dX7_lookOn_49 ?_
    refine G_callV 53 rfl [] (c_X5_lookAtNext hR hp hg hg8 (i := j) hj (by omega)) ok_X5_lookAtNext ov_X5_lookAtNext ml_X7_268 (hR.ob (ci := 5) (i := p) (by decide) hp) ⟨by decide, rfl⟩ rfl ⟨by decide, by decide⟩ rfl rfl (Nat.le_of_ble_eq_true rfl) rfl dX7_lookOn_50 ?_
    rintro v h ⟨rfl, hR⟩
    refine G_ret rfl ?_ dX7_lookOn_53
    refine ⟨rfl, ?_⟩
    unfold lkS
    rw [hq]
    exact hR
  · skip
    have hvn := hv n (List.mem_of_find?_eq_some hq)
    refine G_astore 40 rfl (by decide) dX7_lookOn_38 ?_
    refine G_aload_n 41 rfl rfl dX7_lookOn_40 ?_
    refine G_ifnull 44 rfl dX7_lookOn_41 ?_
    refine G_aload 46 rfl rfl dX7_lookOn_44 ?_
    refine G_ifnonnull 54 (by decide) dX7_lookOn_46 ?_
    refine G_aload_n 55 rfl rfl dX7_lookOn_54 ?_
    refine G_aload 57 rfl rfl dX7_lookOn_55 ?_
    refine G_e5 60 rfl hR fl_X7_271 hvn dX7_lookOn_57 ?_
    refine G_pi 63 rfl hR 5 10 p 330 fl_X7_262 hp rfl ⟨rfl, rfl⟩ rfl rfl dX7_lookOn_60 (fun h hR => ?_)
    refine G_aload 65 rfl rfl dX7_lookOn_63 ?_
    refine G_gi 68 rfl hR 0 0 n 0 (σ.1 0 n) fl_X7_203 hvn rfl rfl rfl rfl dX7_lookOn_65 ?_
    refine G_aload_n 69 rfl rfl dX7_lookOn_68 ?_
    refine G_p0 72 rfl hR fl_X7_241 hp dX7_lookOn_69 ?_
    refine G_icmp_eq 98 75 rfl (by decide) dX7_lookOn_72 (fun c72 => ?_) (fun c72 => ?_)
    · skip
      refine G_ret rfl ?_ dX7_lookOn_98
      refine ⟨rfl, ?_⟩
      unfold lkS
      rw [hq]
      show RR E m (if _ then _ else _) τ h
      rw [if_neg (by first | exact fun z => z.2 c84 | exact fun z => z.1 c72)]
      exact hR
    · skip
      refine G_aload 77 rfl rfl dX7_lookOn_75 ?_
      refine G_gi 80 rfl hR 0 2 n 2 (σ.1 2 n) fl_X7_272 hvn rfl rfl rfl rfl dX7_lookOn_77 ?_
      refine G_aload_n 81 rfl rfl dX7_lookOn_80 ?_
      refine G_gi 84 rfl hR 2 0 (8 * p + j) 128 (σ.1 128 (8 * p + j)) fl_X7_273 (gvd hp (by omega)) rfl rfl rfl rfl dX7_lookOn_81 ?_
      refine G_icmp_eq 98 87 rfl (by decide) dX7_lookOn_84 (fun c84 => ?_) (fun c84 => ?_)
      · skip
        refine G_ret rfl ?_ dX7_lookOn_98
        refine ⟨rfl, ?_⟩
        unfold lkS
        rw [hq]
        show RR E m (if _ then _ else _) τ h
        rw [if_neg (by first | exact fun z => z.2 c84 | exact fun z => z.1 c72)]
        exact hR
      · skip
        refine G_aload_n 88 rfl rfl dX7_lookOn_87 ?_
        refine G_aload 90 rfl rfl dX7_lookOn_88 ?_
        refine G_putMet 93 rfl hR fl_X7_199 hp dX7_lookOn_90 (fun h hR => ?_)
        refine G_aload_n 94 rfl rfl dX7_lookOn_93 ?_
        refine G_iconst 95 rfl (4) (by decide) dX7_lookOn_94 ?_
        refine G_pi 98 rfl hR 5 5 p 325 fl_X7_48 hp rfl ⟨rfl, rfl⟩ rfl rfl dX7_lookOn_95 (fun h hR => ?_)
        refine G_ret rfl ?_ dX7_lookOn_98
        refine ⟨rfl, ?_⟩
        unfold lkS
        rw [hq]
        show RR E m (if _ then _ else _) τ h
        rw [if_pos ⟨c72, c84⟩]
        exact hR

set_option maxHeartbeats 4000000 in
set_option maxRecDepth 100000 in
theorem c_X7_withdrawEntry {E : Ev} {m : Nat} {σ : Sg} {τ : Tu} {h : Hp} (hR : RR E m σ τ h) {p : Nat} (hp : p < m) {w n c : Nat} (hw : σ.1 336 p = nI w) (hwn : (sPb σ p)[w]? = some n) (hn : 1 ≤ n ∧ n ≤ sNp σ) (hec : σ.1 3 n = nI c) (hc : c < 8) (hv : ∀ n ∈ sLs σ c, 1 ≤ n ∧ n ≤ sNp σ) : Cn E mX7_withdrawEntry (rk 2 0 0) h [.ref (aX E), .ref (aP E p)] (fun v h' => v = none ∧ RR E m (wdS σ p n c) τ h') := by
  refine Cn_of (by decide) rfl (by simp [Value.category]) (Nat.le_of_ble_eq_true rfl) ?_
  have hwl := (List.getElem?_eq_some_iff.mp hwn).1
  have hl8 := (hR.2.2.1.2.2.2.2.2.2.2 p hp).1
  have hfe : fE σ p = some n := by unfold fE; rw [hw, cN_nI (by omega)]; exact hwn
  refine G_aload_n 1 rfl rfl dX7_withdrawEntry_0 ?_
  refine G_callV 4 rfl [] (c_X5_firstEntry hR hp hw (by omega)) ok_X5_firstEntry ov_X5_firstEntry ml_X7_298 (hR.ob (ci := 5) (i := p) (by decide) hp) ⟨by decide, rfl⟩ rfl ⟨by decide, by decide⟩ rfl rfl (Nat.le_of_ble_eq_true rfl) rfl dX7_withdrawEntry_1 ?_
  rintro v h' ⟨rfl, rfl⟩
  rw [hfe]
  refine G_astore_n 5 rfl (by decide) dX7_withdrawEntry_4 ?_
  refine G_aload_n 6 rfl rfl dX7_withdrawEntry_5 ?_
  refine G_ifnonnull 13 (by decide) dX7_withdrawEntry_6 ?_
  refine G_aload_n 14 rfl rfl dX7_withdrawEntry_13 ?_
  refine G_aload_n 15 rfl rfl dX7_withdrawEntry_14 ?_
  refine G_gi 18 rfl hR 0 3 n 3 (σ.1 3 n) fl_X7_302 hn rfl rfl rfl rfl dX7_withdrawEntry_15 ?_
  refine G_callV 21 rfl [.int (σ.1 3 n)] (c_X7_listAt hR (σ.1 3 n)) ok_X7_listAt ov_X7_listAt ml_X7_52 (hR.ob (ci := 7) (i := 0) (by decide) rfl) ⟨by decide, rfl⟩ rfl ⟨by decide, by decide⟩ rfl rfl (Nat.le_of_ble_eq_true rfl) rfl dX7_withdrawEntry_18 ?_
  rintro v h' ⟨⟨c', hc', e', rfl⟩ | ⟨e', rfl⟩, rfl⟩
  rotate_left
  · exact absurd e' (by rw [hec]; exact fun z => z.elim (nI_pos (by omega)) (nI_ge hc (by omega)))
  obtain rfl : c = c' := (nI_eq (by omega) (by omega)).mp (hec.symm.trans e')
  refine G_astore_n 22 rfl (by decide) dX7_withdrawEntry_21 ?_
  refine G_aload_n 23 rfl rfl dX7_withdrawEntry_22 ?_
  refine G_ifnull 26 rfl dX7_withdrawEntry_23 ?_
  refine G_aload_n 27 rfl rfl dX7_withdrawEntry_26 ?_
  refine G_ifnull 30 rfl dX7_withdrawEntry_27 ?_
  refine G_aload_n 31 rfl rfl dX7_withdrawEntry_30 ?_
  refine G_aload_n 32 rfl rfl dX7_withdrawEntry_31 ?_
  refine G_e5 35 rfl hR fl_X7_271 hn dX7_withdrawEntry_32 ?_
  refine G_callV 38 rfl [.int (nI n)] (c_X1_drop hR hc (nI n) hv) ok_X1_drop ov_X1_drop ml_X7_303 (hR.ob (ci := 1) (i := c) (by decide) hc) ⟨by decide, rfl⟩ rfl ⟨by decide, by decide⟩ rfl rfl (Nat.le_of_ble_eq_true rfl) rfl dX7_withdrawEntry_35 ?_
  rintro v h ⟨rfl, hR⟩
  refine G_aload_n 39 rfl rfl dX7_withdrawEntry_38 ?_
  refine G_dup 40 rfl rfl dX7_withdrawEntry_39 ?_
  refine G_gi 43 rfl hR 5 16 p 336 (σ.1 336 p) fl_X7_306 hp rfl rfl rfl rfl dX7_withdrawEntry_40 ?_
  refine G_iconst 44 rfl (1) (by decide) dX7_withdrawEntry_43 ?_
  refine G_iadd 45 rfl dX7_withdrawEntry_44 ?_
  refine G_pi 48 rfl hR 5 16 p 336 fl_X7_306 hp rfl ⟨rfl, rfl⟩ rfl rfl dX7_withdrawEntry_45 (fun h hR => ?_)
  refine G_aload_n 49 rfl rfl dX7_withdrawEntry_48 ?_
  refine G_callV 52 rfl [] (c_X5_beginWithdraw hR hp (w := w + 1) (by rw [up_same, hw]; exact nI_1 w) (by exact hwl)) ok_X5_beginWithdraw ov_X5_beginWithdraw ml_X7_104 (hR.ob (ci := 5) (i := p) (by decide) hp) ⟨by decide, rfl⟩ rfl ⟨by decide, by decide⟩ rfl rfl (Nat.le_of_ble_eq_true rfl) rfl dX7_withdrawEntry_49 ?_
  rintro v h ⟨rfl, hR⟩
  refine G_ret rfl ?_ dX7_withdrawEntry_52
  exact ⟨rfl, hR⟩
end
section
theorem ph_cases {x : Int32} (h1 : ¬ x < 2) (h2 : ¬ 11 < x) : x = 2 ∨ x = 3 ∨ x = 4 ∨ x = 5 ∨ x = 6 ∨ x = 7 ∨ x = 8 ∨ x = 9 ∨ x = 10 ∨ x = 11 := by
  have e1 : ¬ x.toInt < 2 := fun q => h1 (Int32.lt_iff_toInt_lt.mpr q)
  have e2 : ¬ 11 < x.toInt := fun q => h2 (Int32.lt_iff_toInt_lt.mpr q)
  obtain ⟨j, hj, e⟩ := vp_in_of (x := x) (n := 12) (vp_in_iff.mpr ⟨by omega, by omega⟩) (by omega)
  subst e
  rw [nI_toInt (by omega)] at e1 e2
  rcases j with _ | _ | _ | _ | _ | _ | _ | _ | _ | _ | _ | _ | j
  · omega
  · omega
  · exact Or.inl rfl
  · exact Or.inr (Or.inl rfl)
  · exact Or.inr (Or.inr (Or.inl rfl))
  · exact Or.inr (Or.inr (Or.inr (Or.inl rfl)))
  · exact Or.inr (Or.inr (Or.inr (Or.inr (Or.inl rfl))))
  · exact Or.inr (Or.inr (Or.inr (Or.inr (Or.inr (Or.inl rfl)))))
  · exact Or.inr (Or.inr (Or.inr (Or.inr (Or.inr (Or.inr (Or.inl rfl))))))
  · exact Or.inr (Or.inr (Or.inr (Or.inr (Or.inr (Or.inr (Or.inr (Or.inl rfl)))))))
  · exact Or.inr (Or.inr (Or.inr (Or.inr (Or.inr (Or.inr (Or.inr (Or.inr (Or.inl rfl))))))))
  · exact Or.inr (Or.inr (Or.inr (Or.inr (Or.inr (Or.inr (Or.inr (Or.inr (Or.inr rfl))))))))
  · omega
def endL (σ : Sg) (p : Nat) : Sg := if stl σ p then bWd σ p else if σ.1 332 p = 0 then up σ 325 p 10 else lkFF (up σ 332 p 0) p
def wake (σ : Sg) (p : Nat) : Sg := if stl σ p then bWd σ p else σ
def clL (σ : Sg) (p q n : Nat) : Sg := if tryOk σ p (loT p q) n then up (tryY σ p (loT p q)) 325 p 5 else if loT p q = p ∧ stl σ p then bWd (tryN σ) p else up (nBs (tryN σ) p (loT p q) n) 325 p 3
def clH (σ : Sg) (p q n g : Nat) : Sg := if tryOk σ p (hiT p q) n then up (recP (tryY σ p (hiT p q)) p q n g) 325 p 7 else up (up (nBs (tryN σ) p (hiT p q) n) 333 p (if hiT p q = p ∧ stl σ p then 1 else 0)) 325 p 6
/-- the step of a claim, by its phase: p with q, over the entry n and the guard g -/
def meet (σ : Sg) (p q n g : Nat) : Sg := if σ.1 325 p = 4 then clL σ p q n else if σ.1 325 p = 5 then clH σ p q n g else if σ.1 325 p = 6 then gvB σ p q else if σ.1 325 p = 7 then tlO σ p q g else tkO σ p n g
set_option maxHeartbeats 4000000 in
set_option maxRecDepth 100000 in
theorem c_X7_accessToMeet {E : Ev} {m : Nat} {σ : Sg} {τ : Tu} {h : Hp} (hR : RR E m σ τ h) {p : Nat} (hp : p < m) {g : Nat} (hg : σ.1 326 p = nI g) (hg8 : g ≤ 8) {j : Nat} (hj : σ.1 329 p = nI j) (hjg : j < g) {w : Nat} (hw : σ.1 336 p = nI w) (hwl : w ≤ (sPb σ p).length) {z : Nat} (hz : σ.1 257 0 = nI z) (hzb : z < 2 ^ 30) {n q : Nat} (hmet : sMet σ p = some n) (hn : 1 ≤ n ∧ n ≤ sNp σ) (hq0 : σ.1 0 n = nI q) (hq : q < m) (hph : σ.1 325 p = 4 ∨ σ.1 325 p = 5 ∨ σ.1 325 p = 6 ∨ σ.1 325 p = 7 ∨ σ.1 325 p = 8) : Cn E mX7_accessToMeet (rk 3 0 0) h [.ref (aX E), .ref (aP E p)] (fun v h' => v = none ∧ RR E m (meet σ p q n (8 * p + j)) τ h') := by
  refine Cn_of (by decide) rfl (by simp [Value.category]) (Nat.le_of_ble_eq_true rfl) ?_
  have hm := hR.1.1
  refine G_aload_n 1 rfl rfl dX7_accessToMeet_0 ?_
  refine G_callV 4 rfl [] (c_X5_currentGuard hR hp hg hg8 hj hjg) ok_X5_currentGuard ov_X5_currentGuard ml_X7_195 (hR.ob (ci := 5) (i := p) (by decide) hp) ⟨by decide, rfl⟩ rfl ⟨by decide, by decide⟩ rfl rfl (Nat.le_of_ble_eq_true rfl) rfl dX7_accessToMeet_1 ?_
  rintro v h' ⟨rfl, rfl⟩
  refine G_astore_n 5 rfl (by decide) dX7_accessToMeet_4 ?_
  refine G_aload_n 6 rfl rfl dX7_accessToMeet_5 ?_
  refine G_metS 9 rfl hR hmet fl_X7_199 hp dX7_accessToMeet_6 ?_
  refine G_astore_n 10 rfl (by decide) dX7_accessToMeet_9 ?_
  refine G_aload_n 11 rfl rfl dX7_accessToMeet_10 ?_
  refine G_ifnonnull 18 (by decide) dX7_accessToMeet_11 ?_
  refine G_aload_n 19 rfl rfl dX7_accessToMeet_18 ?_
  refine G_aload_n 20 rfl rfl dX7_accessToMeet_19 ?_
  refine G_gi 23 rfl hR 0 0 n 0 (σ.1 0 n) fl_X7_203 hn rfl rfl rfl rfl dX7_accessToMeet_20 ?_
  refine G_callV 26 rfl [.int (σ.1 0 n)] (c_X7_procAt hR (σ.1 0 n)) ok_X7_procAt ov_X7_procAt ml_X7_78 (hR.ob (ci := 7) (i := 0) (by decide) rfl) ⟨by decide, rfl⟩ rfl ⟨by decide, by decide⟩ rfl rfl (Nat.le_of_ble_eq_true rfl) rfl dX7_accessToMeet_23 ?_
  rintro v h' ⟨⟨q', hq', e', rfl⟩ | ⟨e', rfl⟩, rfl⟩
  rotate_left
  · exact absurd e' (by rw [hq0]; exact fun z => z.elim (nI_pos (by omega)) (nI_ge hq (by omega)))
  obtain rfl : q = q' := (nI_eq (by omega) (by omega)).mp (hq0.symm.trans e')
  refine G_astore 28 rfl (by decide) dX7_accessToMeet_26 ?_
  refine G_aload_n 29 rfl rfl dX7_accessToMeet_28 ?_
  refine G_ifnull 32 rfl dX7_accessToMeet_29 ?_
  refine G_aload 34 rfl rfl dX7_accessToMeet_32 ?_
  refine G_ifnonnull 38 (by decide) dX7_accessToMeet_34 ?_
  refine G_aload_n 39 rfl rfl dX7_accessToMeet_38 ?_
  refine G_gi 42 rfl hR 5 5 p 325 (σ.1 325 p) fl_X7_48 hp rfl rfl rfl rfl dX7_accessToMeet_39 ?_
  by_cases k42_4 : σ.1 325 p = 4
  · refine G_tableIn 76 dX7_accessToMeet_42 (by rw [k42_4]; decide) (by rw [k42_4]; decide) (off := 34) (by rw [k42_4]; rfl) (by decide) ?_
    refine G_aload_n 77 rfl rfl dX7_accessToMeet_76 ?_
    refine G_aload_n 78 rfl rfl dX7_accessToMeet_77 ?_
    refine G_aload 80 rfl rfl dX7_accessToMeet_78 ?_
    refine G_aload_n 81 rfl rfl dX7_accessToMeet_80 ?_
    refine G_callV 84 rfl [.ref (aP E p), .ref (aP E q), .ref (aE E m n)] (c_X7_claimLower hR hp hq hn hw hwl) ok_X7_claimLower ov_X7_claimLower ml_X7_206 (hR.ob (ci := 7) (i := 0) (by decide) rfl) ⟨by decide, rfl⟩ rfl ⟨by decide, by decide⟩ rfl rfl (Nat.le_of_ble_eq_true rfl) rfl dX7_accessToMeet_81 ?_
    rintro v h ⟨rfl, hR⟩
    have hR : RR E m (clL σ p q n) τ h := by
      unfold clL
      rcases hR with ⟨x1, x2⟩ | ⟨x1, x2, x3, x4⟩ | ⟨x1, x2, x3⟩
      · rw [if_pos x1]; exact x2
      · rw [if_neg x1, if_pos ⟨x2, x3⟩]; exact x4
      · rw [if_neg x1, if_neg x2]; exact x3
    refine G_goto 130 (by decide) dX7_accessToMeet_84 ?_
    refine G_ret rfl ?_ dX7_accessToMeet_130
    refine ⟨rfl, ?_⟩
    unfold meet
    rw [if_pos k42_4]
    exact hR
  · skip
    by_cases k42_5 : σ.1 325 p = 5
    · refine G_tableIn 87 dX7_accessToMeet_42 (by rw [k42_5]; decide) (by rw [k42_5]; decide) (off := 45) (by rw [k42_5]; rfl) (by decide) ?_
      refine G_aload_n 88 rfl rfl dX7_accessToMeet_87 ?_
      refine G_aload_n 89 rfl rfl dX7_accessToMeet_88 ?_
      refine G_aload 91 rfl rfl dX7_accessToMeet_89 ?_
      refine G_aload_n 92 rfl rfl dX7_accessToMeet_91 ?_
      refine G_aload_n 93 rfl rfl dX7_accessToMeet_92 ?_
      refine G_callV 96 rfl [.ref (aP E p), .ref (aP E q), .ref (aE E m n), .ref (aG E (8 * p + j))] (c_X7_claimHigher hR hp hq hn (gvd hp (show j < 8 by omega)) hz hzb) ok_X7_claimHigher ov_X7_claimHigher ml_X7_210 (hR.ob (ci := 7) (i := 0) (by decide) rfl) ⟨by decide, rfl⟩ rfl ⟨by decide, by decide⟩ rfl rfl (Nat.le_of_ble_eq_true rfl) rfl dX7_accessToMeet_93 ?_
      rintro v h ⟨rfl, hR⟩
      have hR : RR E m (clH σ p q n (8 * p + j)) τ h := by
        unfold clH
        rcases hR with ⟨x1, x2⟩ | ⟨x1, x2⟩
        · rw [if_pos x1]; exact x2
        · rw [if_neg x1]; exact x2
      refine G_goto 130 (by decide) dX7_accessToMeet_96 ?_
      refine G_ret rfl ?_ dX7_accessToMeet_130
      refine ⟨rfl, ?_⟩
      unfold meet
      rw [if_neg k42_4, if_pos k42_5]
      exact hR
    · skip
      by_cases k42_6 : σ.1 325 p = 6
      · refine G_tableIn 99 dX7_accessToMeet_42 (by rw [k42_6]; decide) (by rw [k42_6]; decide) (off := 57) (by rw [k42_6]; rfl) (by decide) ?_
        refine G_aload_n 100 rfl rfl dX7_accessToMeet_99 ?_
        refine G_aload_n 101 rfl rfl dX7_accessToMeet_100 ?_
        refine G_aload 103 rfl rfl dX7_accessToMeet_101 ?_
        refine G_callV 106 rfl [.ref (aP E p), .ref (aP E q)] (c_X7_giveBack hR hp hq hw hwl) ok_X7_giveBack ov_X7_giveBack ml_X7_214 (hR.ob (ci := 7) (i := 0) (by decide) rfl) ⟨by decide, rfl⟩ rfl ⟨by decide, by decide⟩ rfl rfl (Nat.le_of_ble_eq_true rfl) rfl dX7_accessToMeet_103 ?_
        rintro v h ⟨rfl, hR⟩
        refine G_goto 130 (by decide) dX7_accessToMeet_106 ?_
        refine G_ret rfl ?_ dX7_accessToMeet_130
        refine ⟨rfl, ?_⟩
        unfold meet
        rw [if_neg k42_4, if_neg k42_5, if_pos k42_6]
        exact hR
      · skip
        by_cases k42_7 : σ.1 325 p = 7
        · refine G_tableIn 109 dX7_accessToMeet_42 (by rw [k42_7]; decide) (by rw [k42_7]; decide) (off := 67) (by rw [k42_7]; rfl) (by decide) ?_
          refine G_aload_n 110 rfl rfl dX7_accessToMeet_109 ?_
          refine G_aload_n 111 rfl rfl dX7_accessToMeet_110 ?_
          refine G_aload 113 rfl rfl dX7_accessToMeet_111 ?_
          refine G_aload_n 114 rfl rfl dX7_accessToMeet_113 ?_
          refine G_callV 117 rfl [.ref (aP E p), .ref (aP E q), .ref (aG E (8 * p + j))] (c_X7_tellOther hR hp hq (gvd hp (show j < 8 by omega))) ok_X7_tellOther ov_X7_tellOther ml_X7_218 (hR.ob (ci := 7) (i := 0) (by decide) rfl) ⟨by decide, rfl⟩ rfl ⟨by decide, by decide⟩ rfl rfl (Nat.le_of_ble_eq_true rfl) rfl dX7_accessToMeet_114 ?_
          rintro v h ⟨rfl, hR⟩
          refine G_goto 130 (by decide) dX7_accessToMeet_117 ?_
          refine G_ret rfl ?_ dX7_accessToMeet_130
          refine ⟨rfl, ?_⟩
          unfold meet
          rw [if_neg k42_4, if_neg k42_5, if_neg k42_6, if_pos k42_7]
          exact hR
        · skip
          by_cases k42_8 : σ.1 325 p = 8
          · refine G_tableIn 120 dX7_accessToMeet_42 (by rw [k42_8]; decide) (by rw [k42_8]; decide) (off := 78) (by rw [k42_8]; rfl) (by decide) ?_
            refine G_aload_n 121 rfl rfl dX7_accessToMeet_120 ?_
            refine G_aload_n 122 rfl rfl dX7_accessToMeet_121 ?_
            refine G_aload_n 123 rfl rfl dX7_accessToMeet_122 ?_
            refine G_aload_n 124 rfl rfl dX7_accessToMeet_123 ?_
            refine G_callV 127 rfl [.ref (aP E p), .ref (aE E m n), .ref (aG E (8 * p + j))] (c_X7_takeOwn hR hp hn (gvd hp (show j < 8 by omega)) hw hwl) ok_X7_takeOwn ov_X7_takeOwn ml_X7_222 (hR.ob (ci := 7) (i := 0) (by decide) rfl) ⟨by decide, rfl⟩ rfl ⟨by decide, by decide⟩ rfl rfl (Nat.le_of_ble_eq_true rfl) rfl dX7_accessToMeet_124 ?_
            rintro v h ⟨rfl, hR⟩
            refine G_goto 130 (by decide) dX7_accessToMeet_127 ?_
            refine G_ret rfl ?_ dX7_accessToMeet_130
            refine ⟨rfl, ?_⟩
            unfold meet
            rw [if_neg k42_4, if_neg k42_5, if_neg k42_6, if_neg k42_7]
            exact hR
          · skip
            exfalso
            rcases hph with x | x | x | x | x
            · exact absurd x k42_4
            · exact absurd x k42_5
            · exact absurd x k42_6
            · exact absurd x k42_7
            · exact absurd x k42_8

/-- what access needs of the state -/
def vdL (σ : Sg) (c : Nat) : Prop := ∀ n ∈ sLs σ c, 1 ≤ n ∧ n ≤ sNp σ
def AO (m : Nat) (σ : Sg) (p : Nat) : Prop := ∃ g w z : Nat, (σ.1 326 p = nI g ∧ g ≤ 8) ∧ (σ.1 336 p = nI w ∧ w ≤ (sPb σ p).length) ∧ (σ.1 257 0 = nI z ∧ z < 2 ^ 30) ∧ σ.1 453 0 = nI (sNp σ) ∧
  (¬ σ.1 325 p < 2 ∧ ¬ 8 < σ.1 325 p → ∃ j c : Nat, j < g ∧ σ.1 329 p = nI j ∧ σ.1 129 (8 * p + j) = nI c ∧ c < 8 ∧ vdL σ c ∧ (σ.1 325 p = 2 → (sLs σ c).length < 128 ∧ (sPb σ p).length < 8)) ∧
  (¬ σ.1 325 p < 4 ∧ ¬ 8 < σ.1 325 p → ∃ n q : Nat, sMet σ p = some n ∧ (1 ≤ n ∧ n ≤ sNp σ) ∧ σ.1 0 n = nI q ∧ q < m) ∧
  (σ.1 325 p = 11 → ∃ n c : Nat, (sPb σ p)[w]? = some n ∧ (1 ≤ n ∧ n ≤ sNp σ) ∧ σ.1 3 n = nI c ∧ c < 8 ∧ vdL σ c)
def atN (σ : Sg) (p : Nat) : Nat := cN (σ.1 329 p)
def chN (σ : Sg) (p : Nat) : Nat := cN (σ.1 129 (8 * p + atN σ p))
def meN (σ : Sg) (p : Nat) : Nat := (sMet σ p).getD 0
def dueN (σ : Sg) (p : Nat) : Prop := (¬ σ.1 328 p = -1 ∧ ¬ σ.1 451 0 < σ.1 328 p) ∧ (σ.1 325 p = 2 ∨ σ.1 325 p = 3 ∨ σ.1 325 p = 9 ∨ σ.1 325 p = 10)
def phS (σ : Sg) (p : Nat) : Sg :=
  if σ.1 325 p = 2 then pubS σ p (atN σ p) (chN σ p) else if σ.1 325 p = 3 then lkS σ p (atN σ p) (chN σ p)
  else if σ.1 325 p = 9 then endL σ p else if σ.1 325 p = 10 then wake σ p
  else if σ.1 325 p = 11 then wdS σ p ((fE σ p).getD 0) (cN (σ.1 3 ((fE σ p).getD 0)))
  else meet σ p (cN (σ.1 0 (meN σ p))) (meN σ p) (8 * p + atN σ p)
def acc1 (σ : Sg) (p : Nat) : Sg := if (¬ σ.1 328 p = -1 ∧ ¬ σ.1 451 0 < σ.1 328 p) ∧ (σ.1 325 p = 2 ∨ σ.1 325 p = 3 ∨ σ.1 325 p = 9 ∨ σ.1 325 p = 10) then rOut σ p else phS σ p
def acc (σ : Sg) (p : Nat) : Sg := acc1 (up σ 452 0 (σ.1 452 0 + 1)) p
set_option maxHeartbeats 4000000 in
set_option maxRecDepth 100000 in
theorem c_X7_access {E : Ev} {m : Nat} {σ : Sg} {τ : Tu} {h : Hp} (hR : RR E m σ τ h) {p : Nat} (hp : p < m) (h2 : ¬ σ.1 325 p < 2) (h11 : ¬ 11 < σ.1 325 p) (hAO : AO m σ p) : Cn E mX7_access (rk 4 1 6) h [.ref (aX E), .ref (aP E p)] (fun v h' => v = none ∧ RR E m (acc σ p) τ h') := by
  refine Cn_of (by decide) rfl (by simp [Value.category]) (Nat.le_of_ble_eq_true rfl) ?_
  have hm := hR.1.1
  refine G_aload_n 1 rfl rfl dX7_access_0 ?_
  refine G_dup 2 rfl rfl dX7_access_1 ?_
  refine G_gi 5 rfl hR 7 4 0 452 (σ.1 452 0) fl_X7_147 rfl rfl rfl rfl rfl dX7_access_2 ?_
  refine G_iconst 6 rfl (1) (by decide) dX7_access_5 ?_
  refine G_iadd 7 rfl dX7_access_6 ?_
  refine G_pi 10 rfl hR 7 4 0 452 fl_X7_147 rfl rfl ⟨rfl, rfl⟩ rfl rfl dX7_access_7 (fun h hR => ?_)
  have hAO : AO m (up σ 452 0 (σ.1 452 0 + 1)) p := hAO
  have hph1 : ¬ (up σ 452 0 (σ.1 452 0 + 1)).1 325 p < 2 := h2
  have hph2 : ¬ 11 < (up σ 452 0 (σ.1 452 0 + 1)).1 325 p := h11
  unfold acc
  generalize up σ 452 0 (σ.1 452 0 + 1) = σ1 at hR hAO hph1 hph2 ⊢
  obtain ⟨g, w, z, ⟨hg, hg8⟩, ⟨hw, hwl⟩, ⟨hz, hzb⟩, hnp0, hA1, hA2, hA3⟩ := hAO
  refine G_aload_n 11 rfl rfl dX7_access_10 ?_
  refine G_aload_n 12 rfl rfl dX7_access_11 ?_
  refine G_gi 15 rfl hR 7 3 0 451 (σ1.1 451 0) fl_X7_72 rfl rfl rfl rfl rfl dX7_access_12 ?_
  refine G_callV 18 rfl [.int (σ1.1 451 0)] (c_X5_isDue hR hp (σ1.1 451 0)) ok_X5_isDue ov_X5_isDue ml_X7_167 (hR.ob (ci := 5) (i := p) (by decide) hp) ⟨by decide, rfl⟩ rfl ⟨by decide, by decide⟩ rfl rfl (Nat.le_of_ble_eq_true rfl) rfl dX7_access_15 ?_
  rintro v h' ⟨⟨hs, rfl⟩ | ⟨hs, rfl⟩, rfl⟩
  · skip
    refine G_ifF_eq 21 rfl (by decide) ⟨34, by decide⟩ dX7_access_18 ?_
    refine G_aload_n 22 rfl rfl dX7_access_21 ?_
    refine G_callV 25 rfl [] (c_X5_heedsTime hR hp) ok_X5_heedsTime ov_X5_heedsTime ml_X7_171 (hR.ob (ci := 5) (i := p) (by decide) hp) ⟨by decide, rfl⟩ rfl ⟨by decide, by decide⟩ rfl rfl (Nat.le_of_ble_eq_true rfl) rfl dX7_access_22 ?_
    rintro v h' ⟨⟨ht, rfl⟩ | ⟨ht, rfl⟩, rfl⟩
    · skip
      refine G_ifF_eq 28 rfl (by decide) ⟨34, by decide⟩ dX7_access_25 ?_
      refine G_aload_n 29 rfl rfl dX7_access_28 ?_
      refine G_aload_n 30 rfl rfl dX7_access_29 ?_
      refine G_callV 33 rfl [.ref (aP E p)] (c_X7_runOutOfTime hR hp hw hwl) ok_X7_runOutOfTime ov_X7_runOutOfTime ml_X7_174 (hR.ob (ci := 7) (i := 0) (by decide) rfl) ⟨by decide, rfl⟩ rfl ⟨by decide, by decide⟩ rfl rfl (Nat.le_of_ble_eq_true rfl) rfl dX7_access_30 ?_
      rintro v h ⟨rfl, hR⟩
      refine G_ret rfl ?_ dX7_access_33
      refine ⟨rfl, ?_⟩
      unfold acc1
      rw [if_pos ⟨hs, ht⟩]
      exact hR
    · skip
      refine G_ifT_eq 34 (by decide) (by decide) dX7_access_25 ?_
      refine G_aload_n 35 rfl rfl dX7_access_34 ?_
      refine G_gi 38 rfl hR 5 5 p 325 (σ1.1 325 p) fl_X7_48 hp rfl rfl rfl rfl dX7_access_35 ?_
      by_cases k38_2 : σ1.1 325 p = 2
      · refine G_tableIn 92 dX7_access_38 (by rw [k38_2]; decide) (by rw [k38_2]; decide) (off := 54) (by rw [k38_2]; rfl) (by decide) ?_
        refine G_aload_n 93 rfl rfl dX7_access_92 ?_
        refine G_aload_n 94 rfl rfl dX7_access_93 ?_
        obtain ⟨j, c, hjg, hj, hch, hc, hv, hpb⟩ := hA1 (by rw [k38_2]; decide)
        have ej : atN σ1 p = j := by unfold atN; rw [hj]; exact cN_nI (by omega)
        have ec : chN σ1 p = c := by unfold chN; rw [ej, hch]; exact cN_nI (by omega)
        obtain ⟨hll, hpl8⟩ := hpb k38_2
        refine G_callV 97 rfl [.ref (aP E p)] (c_X7_publishEntry hR hp hg hg8 hj hjg hch hc hnp0 hll hpl8) ok_X7_publishEntry ov_X7_publishEntry ml_X7_177 (hR.ob (ci := 7) (i := 0) (by decide) rfl) ⟨by decide, rfl⟩ rfl ⟨by decide, by decide⟩ (ac' := 0) (as' := 0) rfl rfl (Nat.le_of_ble_eq_true rfl) rfl dX7_access_94 ?_
        rintro v h ⟨rfl, hR⟩
        refine G_goto 135 (by decide) dX7_access_97 ?_
        refine G_ret rfl ?_ dX7_access_135
        refine ⟨rfl, ?_⟩
        unfold acc1
        rw [if_neg (by first | exact fun z => hs z.1 | exact fun z => ht z.2)]
        unfold phS
        rw [if_pos k38_2, ej, ec]
        exact hR
      · skip
        by_cases k38_3 : σ1.1 325 p = 3
        · refine G_tableIn 100 dX7_access_38 (by rw [k38_3]; decide) (by rw [k38_3]; decide) (off := 62) (by rw [k38_3]; rfl) (by decide) ?_
          refine G_aload_n 101 rfl rfl dX7_access_100 ?_
          refine G_aload_n 102 rfl rfl dX7_access_101 ?_
          obtain ⟨j, c, hjg, hj, hch, hc, hv, hpb⟩ := hA1 (by rw [k38_3]; decide)
          have ej : atN σ1 p = j := by unfold atN; rw [hj]; exact cN_nI (by omega)
          have ec : chN σ1 p = c := by unfold chN; rw [ej, hch]; exact cN_nI (by omega)
          refine G_callV 105 rfl [.ref (aP E p)] (c_X7_lookOn hR hp hg hg8 hj hjg hch hc hv) ok_X7_lookOn ov_X7_lookOn ml_X7_180 (hR.ob (ci := 7) (i := 0) (by decide) rfl) ⟨by decide, rfl⟩ rfl ⟨by decide, by decide⟩ rfl rfl (Nat.le_of_ble_eq_true rfl) rfl dX7_access_102 ?_
          rintro v h ⟨rfl, hR⟩
          refine G_goto 135 (by decide) dX7_access_105 ?_
          refine G_ret rfl ?_ dX7_access_135
          refine ⟨rfl, ?_⟩
          unfold acc1
          rw [if_neg (by first | exact fun z => hs z.1 | exact fun z => ht z.2)]
          unfold phS
          rw [if_neg k38_2, if_pos k38_3, ej, ec]
          exact hR
        · skip
          by_cases k38_4 : σ1.1 325 p = 4
          · refine G_tableIn 130 dX7_access_38 (by rw [k38_4]; decide) (by rw [k38_4]; decide) (off := 92) (by rw [k38_4]; rfl) (by decide) ?_
            refine G_aload_n 131 rfl rfl dX7_access_130 ?_
            refine G_aload_n 132 rfl rfl dX7_access_131 ?_
            have hk : ∃ k : Int32, σ1.1 325 p = k ∧ (k = 4 ∨ k = 5 ∨ k = 6 ∨ k = 7 ∨ k = 8) := by
              first
              | exact ⟨4, k38_4, Or.inl rfl⟩
              | exact ⟨5, k38_5, Or.inr (Or.inl rfl)⟩
              | exact ⟨6, k38_6, Or.inr (Or.inr (Or.inl rfl))⟩
              | exact ⟨7, k38_7, Or.inr (Or.inr (Or.inr (Or.inl rfl)))⟩
              | exact ⟨8, k38_8, Or.inr (Or.inr (Or.inr (Or.inr rfl)))⟩
            obtain ⟨k, kk, hkk⟩ := hk
            obtain ⟨j, c, hjg, hj, hch, hc, hv, hpb⟩ := hA1 (by rw [kk]; rcases hkk with rfl | rfl | rfl | rfl | rfl <;> decide)
            obtain ⟨n, q, hmet, hn, hq0, hq⟩ := hA2 (by rw [kk]; rcases hkk with rfl | rfl | rfl | rfl | rfl <;> decide)
            have ej : atN σ1 p = j := by unfold atN; rw [hj]; exact cN_nI (by omega)
            refine G_callV 135 rfl [.ref (aP E p)] (c_X7_accessToMeet hR hp hg hg8 hj hjg hw hwl hz hzb hmet hn hq0 hq (by rw [kk]; exact hkk)) ok_X7_accessToMeet ov_X7_accessToMeet ml_X7_192 (hR.ob (ci := 7) (i := 0) (by decide) rfl) ⟨by decide, rfl⟩ rfl ⟨by decide, by decide⟩ rfl rfl (Nat.le_of_ble_eq_true rfl) rfl dX7_access_132 ?_
            rintro v h ⟨rfl, hR⟩
            refine G_ret rfl ?_ dX7_access_135
            refine ⟨rfl, ?_⟩
            unfold acc1
            rw [if_neg (by first | exact fun z => hs z.1 | exact fun z => ht z.2)]
            unfold phS
            rw [if_neg (by rw [kk]; rcases hkk with rfl | rfl | rfl | rfl | rfl <;> decide), if_neg (by rw [kk]; rcases hkk with rfl | rfl | rfl | rfl | rfl <;> decide), if_neg (by rw [kk]; rcases hkk with rfl | rfl | rfl | rfl | rfl <;> decide), if_neg (by rw [kk]; rcases hkk with rfl | rfl | rfl | rfl | rfl <;> decide), if_neg (by rw [kk]; rcases hkk with rfl | rfl | rfl | rfl | rfl <;> decide), ej]
            unfold meN
            rw [hmet]
            show RR E m (meet σ1 p (cN (σ1.1 0 n)) n (8 * p + j)) τ h
            rw [hq0, cN_nI (by omega)]
            exact hR
          · skip
            by_cases k38_5 : σ1.1 325 p = 5
            · refine G_tableIn 130 dX7_access_38 (by rw [k38_5]; decide) (by rw [k38_5]; decide) (off := 92) (by rw [k38_5]; rfl) (by decide) ?_
              refine G_aload_n 131 rfl rfl dX7_access_130 ?_
              refine G_aload_n 132 rfl rfl dX7_access_131 ?_
              have hk : ∃ k : Int32, σ1.1 325 p = k ∧ (k = 4 ∨ k = 5 ∨ k = 6 ∨ k = 7 ∨ k = 8) := by
                first
                | exact ⟨4, k38_4, Or.inl rfl⟩
                | exact ⟨5, k38_5, Or.inr (Or.inl rfl)⟩
                | exact ⟨6, k38_6, Or.inr (Or.inr (Or.inl rfl))⟩
                | exact ⟨7, k38_7, Or.inr (Or.inr (Or.inr (Or.inl rfl)))⟩
                | exact ⟨8, k38_8, Or.inr (Or.inr (Or.inr (Or.inr rfl)))⟩
              obtain ⟨k, kk, hkk⟩ := hk
              obtain ⟨j, c, hjg, hj, hch, hc, hv, hpb⟩ := hA1 (by rw [kk]; rcases hkk with rfl | rfl | rfl | rfl | rfl <;> decide)
              obtain ⟨n, q, hmet, hn, hq0, hq⟩ := hA2 (by rw [kk]; rcases hkk with rfl | rfl | rfl | rfl | rfl <;> decide)
              have ej : atN σ1 p = j := by unfold atN; rw [hj]; exact cN_nI (by omega)
              refine G_callV 135 rfl [.ref (aP E p)] (c_X7_accessToMeet hR hp hg hg8 hj hjg hw hwl hz hzb hmet hn hq0 hq (by rw [kk]; exact hkk)) ok_X7_accessToMeet ov_X7_accessToMeet ml_X7_192 (hR.ob (ci := 7) (i := 0) (by decide) rfl) ⟨by decide, rfl⟩ rfl ⟨by decide, by decide⟩ rfl rfl (Nat.le_of_ble_eq_true rfl) rfl dX7_access_132 ?_
              rintro v h ⟨rfl, hR⟩
              refine G_ret rfl ?_ dX7_access_135
              refine ⟨rfl, ?_⟩
              unfold acc1
              rw [if_neg (by first | exact fun z => hs z.1 | exact fun z => ht z.2)]
              unfold phS
              rw [if_neg (by rw [kk]; rcases hkk with rfl | rfl | rfl | rfl | rfl <;> decide), if_neg (by rw [kk]; rcases hkk with rfl | rfl | rfl | rfl | rfl <;> decide), if_neg (by rw [kk]; rcases hkk with rfl | rfl | rfl | rfl | rfl <;> decide), if_neg (by rw [kk]; rcases hkk with rfl | rfl | rfl | rfl | rfl <;> decide), if_neg (by rw [kk]; rcases hkk with rfl | rfl | rfl | rfl | rfl <;> decide), ej]
              unfold meN
              rw [hmet]
              show RR E m (meet σ1 p (cN (σ1.1 0 n)) n (8 * p + j)) τ h
              rw [hq0, cN_nI (by omega)]
              exact hR
            · skip
              by_cases k38_6 : σ1.1 325 p = 6
              · refine G_tableIn 130 dX7_access_38 (by rw [k38_6]; decide) (by rw [k38_6]; decide) (off := 92) (by rw [k38_6]; rfl) (by decide) ?_
                refine G_aload_n 131 rfl rfl dX7_access_130 ?_
                refine G_aload_n 132 rfl rfl dX7_access_131 ?_
                have hk : ∃ k : Int32, σ1.1 325 p = k ∧ (k = 4 ∨ k = 5 ∨ k = 6 ∨ k = 7 ∨ k = 8) := by
                  first
                  | exact ⟨4, k38_4, Or.inl rfl⟩
                  | exact ⟨5, k38_5, Or.inr (Or.inl rfl)⟩
                  | exact ⟨6, k38_6, Or.inr (Or.inr (Or.inl rfl))⟩
                  | exact ⟨7, k38_7, Or.inr (Or.inr (Or.inr (Or.inl rfl)))⟩
                  | exact ⟨8, k38_8, Or.inr (Or.inr (Or.inr (Or.inr rfl)))⟩
                obtain ⟨k, kk, hkk⟩ := hk
                obtain ⟨j, c, hjg, hj, hch, hc, hv, hpb⟩ := hA1 (by rw [kk]; rcases hkk with rfl | rfl | rfl | rfl | rfl <;> decide)
                obtain ⟨n, q, hmet, hn, hq0, hq⟩ := hA2 (by rw [kk]; rcases hkk with rfl | rfl | rfl | rfl | rfl <;> decide)
                have ej : atN σ1 p = j := by unfold atN; rw [hj]; exact cN_nI (by omega)
                refine G_callV 135 rfl [.ref (aP E p)] (c_X7_accessToMeet hR hp hg hg8 hj hjg hw hwl hz hzb hmet hn hq0 hq (by rw [kk]; exact hkk)) ok_X7_accessToMeet ov_X7_accessToMeet ml_X7_192 (hR.ob (ci := 7) (i := 0) (by decide) rfl) ⟨by decide, rfl⟩ rfl ⟨by decide, by decide⟩ rfl rfl (Nat.le_of_ble_eq_true rfl) rfl dX7_access_132 ?_
                rintro v h ⟨rfl, hR⟩
                refine G_ret rfl ?_ dX7_access_135
                refine ⟨rfl, ?_⟩
                unfold acc1
                rw [if_neg (by first | exact fun z => hs z.1 | exact fun z => ht z.2)]
                unfold phS
                rw [if_neg (by rw [kk]; rcases hkk with rfl | rfl | rfl | rfl | rfl <;> decide), if_neg (by rw [kk]; rcases hkk with rfl | rfl | rfl | rfl | rfl <;> decide), if_neg (by rw [kk]; rcases hkk with rfl | rfl | rfl | rfl | rfl <;> decide), if_neg (by rw [kk]; rcases hkk with rfl | rfl | rfl | rfl | rfl <;> decide), if_neg (by rw [kk]; rcases hkk with rfl | rfl | rfl | rfl | rfl <;> decide), ej]
                unfold meN
                rw [hmet]
                show RR E m (meet σ1 p (cN (σ1.1 0 n)) n (8 * p + j)) τ h
                rw [hq0, cN_nI (by omega)]
                exact hR
              · skip
                by_cases k38_7 : σ1.1 325 p = 7
                · refine G_tableIn 130 dX7_access_38 (by rw [k38_7]; decide) (by rw [k38_7]; decide) (off := 92) (by rw [k38_7]; rfl) (by decide) ?_
                  refine G_aload_n 131 rfl rfl dX7_access_130 ?_
                  refine G_aload_n 132 rfl rfl dX7_access_131 ?_
                  have hk : ∃ k : Int32, σ1.1 325 p = k ∧ (k = 4 ∨ k = 5 ∨ k = 6 ∨ k = 7 ∨ k = 8) := by
                    first
                    | exact ⟨4, k38_4, Or.inl rfl⟩
                    | exact ⟨5, k38_5, Or.inr (Or.inl rfl)⟩
                    | exact ⟨6, k38_6, Or.inr (Or.inr (Or.inl rfl))⟩
                    | exact ⟨7, k38_7, Or.inr (Or.inr (Or.inr (Or.inl rfl)))⟩
                    | exact ⟨8, k38_8, Or.inr (Or.inr (Or.inr (Or.inr rfl)))⟩
                  obtain ⟨k, kk, hkk⟩ := hk
                  obtain ⟨j, c, hjg, hj, hch, hc, hv, hpb⟩ := hA1 (by rw [kk]; rcases hkk with rfl | rfl | rfl | rfl | rfl <;> decide)
                  obtain ⟨n, q, hmet, hn, hq0, hq⟩ := hA2 (by rw [kk]; rcases hkk with rfl | rfl | rfl | rfl | rfl <;> decide)
                  have ej : atN σ1 p = j := by unfold atN; rw [hj]; exact cN_nI (by omega)
                  refine G_callV 135 rfl [.ref (aP E p)] (c_X7_accessToMeet hR hp hg hg8 hj hjg hw hwl hz hzb hmet hn hq0 hq (by rw [kk]; exact hkk)) ok_X7_accessToMeet ov_X7_accessToMeet ml_X7_192 (hR.ob (ci := 7) (i := 0) (by decide) rfl) ⟨by decide, rfl⟩ rfl ⟨by decide, by decide⟩ rfl rfl (Nat.le_of_ble_eq_true rfl) rfl dX7_access_132 ?_
                  rintro v h ⟨rfl, hR⟩
                  refine G_ret rfl ?_ dX7_access_135
                  refine ⟨rfl, ?_⟩
                  unfold acc1
                  rw [if_neg (by first | exact fun z => hs z.1 | exact fun z => ht z.2)]
                  unfold phS
                  rw [if_neg (by rw [kk]; rcases hkk with rfl | rfl | rfl | rfl | rfl <;> decide), if_neg (by rw [kk]; rcases hkk with rfl | rfl | rfl | rfl | rfl <;> decide), if_neg (by rw [kk]; rcases hkk with rfl | rfl | rfl | rfl | rfl <;> decide), if_neg (by rw [kk]; rcases hkk with rfl | rfl | rfl | rfl | rfl <;> decide), if_neg (by rw [kk]; rcases hkk with rfl | rfl | rfl | rfl | rfl <;> decide), ej]
                  unfold meN
                  rw [hmet]
                  show RR E m (meet σ1 p (cN (σ1.1 0 n)) n (8 * p + j)) τ h
                  rw [hq0, cN_nI (by omega)]
                  exact hR
                · skip
                  by_cases k38_8 : σ1.1 325 p = 8
                  · refine G_tableIn 130 dX7_access_38 (by rw [k38_8]; decide) (by rw [k38_8]; decide) (off := 92) (by rw [k38_8]; rfl) (by decide) ?_
                    refine G_aload_n 131 rfl rfl dX7_access_130 ?_
                    refine G_aload_n 132 rfl rfl dX7_access_131 ?_
                    have hk : ∃ k : Int32, σ1.1 325 p = k ∧ (k = 4 ∨ k = 5 ∨ k = 6 ∨ k = 7 ∨ k = 8) := by
                      first
                      | exact ⟨4, k38_4, Or.inl rfl⟩
                      | exact ⟨5, k38_5, Or.inr (Or.inl rfl)⟩
                      | exact ⟨6, k38_6, Or.inr (Or.inr (Or.inl rfl))⟩
                      | exact ⟨7, k38_7, Or.inr (Or.inr (Or.inr (Or.inl rfl)))⟩
                      | exact ⟨8, k38_8, Or.inr (Or.inr (Or.inr (Or.inr rfl)))⟩
                    obtain ⟨k, kk, hkk⟩ := hk
                    obtain ⟨j, c, hjg, hj, hch, hc, hv, hpb⟩ := hA1 (by rw [kk]; rcases hkk with rfl | rfl | rfl | rfl | rfl <;> decide)
                    obtain ⟨n, q, hmet, hn, hq0, hq⟩ := hA2 (by rw [kk]; rcases hkk with rfl | rfl | rfl | rfl | rfl <;> decide)
                    have ej : atN σ1 p = j := by unfold atN; rw [hj]; exact cN_nI (by omega)
                    refine G_callV 135 rfl [.ref (aP E p)] (c_X7_accessToMeet hR hp hg hg8 hj hjg hw hwl hz hzb hmet hn hq0 hq (by rw [kk]; exact hkk)) ok_X7_accessToMeet ov_X7_accessToMeet ml_X7_192 (hR.ob (ci := 7) (i := 0) (by decide) rfl) ⟨by decide, rfl⟩ rfl ⟨by decide, by decide⟩ rfl rfl (Nat.le_of_ble_eq_true rfl) rfl dX7_access_132 ?_
                    rintro v h ⟨rfl, hR⟩
                    refine G_ret rfl ?_ dX7_access_135
                    refine ⟨rfl, ?_⟩
                    unfold acc1
                    rw [if_neg (by first | exact fun z => hs z.1 | exact fun z => ht z.2)]
                    unfold phS
                    rw [if_neg (by rw [kk]; rcases hkk with rfl | rfl | rfl | rfl | rfl <;> decide), if_neg (by rw [kk]; rcases hkk with rfl | rfl | rfl | rfl | rfl <;> decide), if_neg (by rw [kk]; rcases hkk with rfl | rfl | rfl | rfl | rfl <;> decide), if_neg (by rw [kk]; rcases hkk with rfl | rfl | rfl | rfl | rfl <;> decide), if_neg (by rw [kk]; rcases hkk with rfl | rfl | rfl | rfl | rfl <;> decide), ej]
                    unfold meN
                    rw [hmet]
                    show RR E m (meet σ1 p (cN (σ1.1 0 n)) n (8 * p + j)) τ h
                    rw [hq0, cN_nI (by omega)]
                    exact hR
                  · skip
                    by_cases k38_9 : σ1.1 325 p = 9
                    · refine G_tableIn 108 dX7_access_38 (by rw [k38_9]; decide) (by rw [k38_9]; decide) (off := 70) (by rw [k38_9]; rfl) (by decide) ?_
                      refine G_aload_n 109 rfl rfl dX7_access_108 ?_
                      refine G_callV 112 rfl [] (c_X5_endLooking hR hp hg hg8 hw hwl) ok_X5_endLooking ov_X5_endLooking ml_X7_183 (hR.ob (ci := 5) (i := p) (by decide) hp) ⟨by decide, rfl⟩ rfl ⟨by decide, by decide⟩ rfl rfl (Nat.le_of_ble_eq_true rfl) rfl dX7_access_109 ?_
                      rintro v h ⟨rfl, hR⟩
                      have hR : RR E m (endL σ1 p) τ h := by
                        unfold endL
                        rcases hR with ⟨x1, x2⟩ | ⟨x1, x2, x3⟩ | ⟨x1, x2, x3⟩
                        · rw [if_pos x1]; exact x2
                        · rw [if_neg x1, if_neg x2]; exact x3
                        · rw [if_neg x1, if_pos x2]; exact x3
                      refine G_goto 135 (by decide) dX7_access_112 ?_
                      refine G_ret rfl ?_ dX7_access_135
                      refine ⟨rfl, ?_⟩
                      unfold acc1
                      rw [if_neg (by first | exact fun z => hs z.1 | exact fun z => ht z.2)]
                      unfold phS
                      rw [if_neg k38_2, if_neg k38_3, if_pos k38_9]
                      exact hR
                    · skip
                      by_cases k38_10 : σ1.1 325 p = 10
                      · refine G_tableIn 115 dX7_access_38 (by rw [k38_10]; decide) (by rw [k38_10]; decide) (off := 77) (by rw [k38_10]; rfl) (by decide) ?_
                        refine G_aload_n 116 rfl rfl dX7_access_115 ?_
                        refine G_callV 119 rfl [] (c_X5_wakeIfSettled hR hp hw hwl) ok_X5_wakeIfSettled ov_X5_wakeIfSettled ml_X7_186 (hR.ob (ci := 5) (i := p) (by decide) hp) ⟨by decide, rfl⟩ rfl ⟨by decide, by decide⟩ rfl rfl (Nat.le_of_ble_eq_true rfl) rfl dX7_access_116 ?_
                        rintro v h ⟨rfl, hR⟩
                        have hR : RR E m (wake σ1 p) τ h := by
                          unfold wake
                          rcases hR with ⟨x1, x2⟩ | ⟨x1, x2⟩
                          · rw [if_pos x1]; exact x2
                          · rw [if_neg x1]; exact x2
                        refine G_goto 135 (by decide) dX7_access_119 ?_
                        refine G_ret rfl ?_ dX7_access_135
                        refine ⟨rfl, ?_⟩
                        unfold acc1
                        rw [if_neg (by first | exact fun z => hs z.1 | exact fun z => ht z.2)]
                        unfold phS
                        rw [if_neg k38_2, if_neg k38_3, if_neg k38_9, if_pos k38_10]
                        exact hR
                      · skip
                        by_cases k38_11 : σ1.1 325 p = 11
                        · refine G_tableIn 122 dX7_access_38 (by rw [k38_11]; decide) (by rw [k38_11]; decide) (off := 84) (by rw [k38_11]; rfl) (by decide) ?_
                          refine G_aload_n 123 rfl rfl dX7_access_122 ?_
                          refine G_aload_n 124 rfl rfl dX7_access_123 ?_
                          obtain ⟨n, c, hwn, hn, hec, hc, hv⟩ := hA3 k38_11
                          have hl8 := (hR.2.2.1.2.2.2.2.2.2.2 p hp).1
                          have hfe : fE σ1 p = some n := by unfold fE; rw [hw, cN_nI (by omega)]; exact hwn
                          refine G_callV 127 rfl [.ref (aP E p)] (c_X7_withdrawEntry hR hp hw hwn hn hec hc hv) ok_X7_withdrawEntry ov_X7_withdrawEntry ml_X7_189 (hR.ob (ci := 7) (i := 0) (by decide) rfl) ⟨by decide, rfl⟩ rfl ⟨by decide, by decide⟩ rfl rfl (Nat.le_of_ble_eq_true rfl) rfl dX7_access_124 ?_
                          rintro v h ⟨rfl, hR⟩
                          refine G_goto 135 (by decide) dX7_access_127 ?_
                          refine G_ret rfl ?_ dX7_access_135
                          refine ⟨rfl, ?_⟩
                          unfold acc1
                          rw [if_neg (by first | exact fun z => hs z.1 | exact fun z => ht z.2)]
                          unfold phS
                          rw [if_neg k38_2, if_neg k38_3, if_neg k38_9, if_neg k38_10, if_pos k38_11, hfe]
                          show RR E m (wdS σ1 p n (cN (σ1.1 3 n))) τ h
                          rw [hec, cN_nI (by omega)]
                          exact hR
                        · skip
                          exfalso
                          rcases ph_cases hph1 hph2 with x | x | x | x | x | x | x | x | x | x
                          · exact absurd x k38_2
                          · exact absurd x k38_3
                          · exact absurd x k38_4
                          · exact absurd x k38_5
                          · exact absurd x k38_6
                          · exact absurd x k38_7
                          · exact absurd x k38_8
                          · exact absurd x k38_9
                          · exact absurd x k38_10
                          · exact absurd x k38_11
  · skip
    refine G_ifT_eq 34 (by decide) (by decide) dX7_access_18 ?_
    refine G_aload_n 35 rfl rfl dX7_access_34 ?_
    refine G_gi 38 rfl hR 5 5 p 325 (σ1.1 325 p) fl_X7_48 hp rfl rfl rfl rfl dX7_access_35 ?_
    by_cases k38_2 : σ1.1 325 p = 2
    · refine G_tableIn 92 dX7_access_38 (by rw [k38_2]; decide) (by rw [k38_2]; decide) (off := 54) (by rw [k38_2]; rfl) (by decide) ?_
      refine G_aload_n 93 rfl rfl dX7_access_92 ?_
      refine G_aload_n 94 rfl rfl dX7_access_93 ?_
      obtain ⟨j, c, hjg, hj, hch, hc, hv, hpb⟩ := hA1 (by rw [k38_2]; decide)
      have ej : atN σ1 p = j := by unfold atN; rw [hj]; exact cN_nI (by omega)
      have ec : chN σ1 p = c := by unfold chN; rw [ej, hch]; exact cN_nI (by omega)
      obtain ⟨hll, hpl8⟩ := hpb k38_2
      refine G_callV 97 rfl [.ref (aP E p)] (c_X7_publishEntry hR hp hg hg8 hj hjg hch hc hnp0 hll hpl8) ok_X7_publishEntry ov_X7_publishEntry ml_X7_177 (hR.ob (ci := 7) (i := 0) (by decide) rfl) ⟨by decide, rfl⟩ rfl ⟨by decide, by decide⟩ (ac' := 0) (as' := 0) rfl rfl (Nat.le_of_ble_eq_true rfl) rfl dX7_access_94 ?_
      rintro v h ⟨rfl, hR⟩
      refine G_goto 135 (by decide) dX7_access_97 ?_
      refine G_ret rfl ?_ dX7_access_135
      refine ⟨rfl, ?_⟩
      unfold acc1
      rw [if_neg (by first | exact fun z => hs z.1 | exact fun z => ht z.2)]
      unfold phS
      rw [if_pos k38_2, ej, ec]
      exact hR
    · skip
      by_cases k38_3 : σ1.1 325 p = 3
      · refine G_tableIn 100 dX7_access_38 (by rw [k38_3]; decide) (by rw [k38_3]; decide) (off := 62) (by rw [k38_3]; rfl) (by decide) ?_
        refine G_aload_n 101 rfl rfl dX7_access_100 ?_
        refine G_aload_n 102 rfl rfl dX7_access_101 ?_
        obtain ⟨j, c, hjg, hj, hch, hc, hv, hpb⟩ := hA1 (by rw [k38_3]; decide)
        have ej : atN σ1 p = j := by unfold atN; rw [hj]; exact cN_nI (by omega)
        have ec : chN σ1 p = c := by unfold chN; rw [ej, hch]; exact cN_nI (by omega)
        refine G_callV 105 rfl [.ref (aP E p)] (c_X7_lookOn hR hp hg hg8 hj hjg hch hc hv) ok_X7_lookOn ov_X7_lookOn ml_X7_180 (hR.ob (ci := 7) (i := 0) (by decide) rfl) ⟨by decide, rfl⟩ rfl ⟨by decide, by decide⟩ rfl rfl (Nat.le_of_ble_eq_true rfl) rfl dX7_access_102 ?_
        rintro v h ⟨rfl, hR⟩
        refine G_goto 135 (by decide) dX7_access_105 ?_
        refine G_ret rfl ?_ dX7_access_135
        refine ⟨rfl, ?_⟩
        unfold acc1
        rw [if_neg (by first | exact fun z => hs z.1 | exact fun z => ht z.2)]
        unfold phS
        rw [if_neg k38_2, if_pos k38_3, ej, ec]
        exact hR
      · skip
        by_cases k38_4 : σ1.1 325 p = 4
        · refine G_tableIn 130 dX7_access_38 (by rw [k38_4]; decide) (by rw [k38_4]; decide) (off := 92) (by rw [k38_4]; rfl) (by decide) ?_
          refine G_aload_n 131 rfl rfl dX7_access_130 ?_
          refine G_aload_n 132 rfl rfl dX7_access_131 ?_
          have hk : ∃ k : Int32, σ1.1 325 p = k ∧ (k = 4 ∨ k = 5 ∨ k = 6 ∨ k = 7 ∨ k = 8) := by
            first
            | exact ⟨4, k38_4, Or.inl rfl⟩
            | exact ⟨5, k38_5, Or.inr (Or.inl rfl)⟩
            | exact ⟨6, k38_6, Or.inr (Or.inr (Or.inl rfl))⟩
            | exact ⟨7, k38_7, Or.inr (Or.inr (Or.inr (Or.inl rfl)))⟩
            | exact ⟨8, k38_8, Or.inr (Or.inr (Or.inr (Or.inr rfl)))⟩
          obtain ⟨k, kk, hkk⟩ := hk
          obtain ⟨j, c, hjg, hj, hch, hc, hv, hpb⟩ := hA1 (by rw [kk]; rcases hkk with rfl | rfl | rfl | rfl | rfl <;> decide)
          obtain ⟨n, q, hmet, hn, hq0, hq⟩ := hA2 (by rw [kk]; rcases hkk with rfl | rfl | rfl | rfl | rfl <;> decide)
          have ej : atN σ1 p = j := by unfold atN; rw [hj]; exact cN_nI (by omega)
          refine G_callV 135 rfl [.ref (aP E p)] (c_X7_accessToMeet hR hp hg hg8 hj hjg hw hwl hz hzb hmet hn hq0 hq (by rw [kk]; exact hkk)) ok_X7_accessToMeet ov_X7_accessToMeet ml_X7_192 (hR.ob (ci := 7) (i := 0) (by decide) rfl) ⟨by decide, rfl⟩ rfl ⟨by decide, by decide⟩ rfl rfl (Nat.le_of_ble_eq_true rfl) rfl dX7_access_132 ?_
          rintro v h ⟨rfl, hR⟩
          refine G_ret rfl ?_ dX7_access_135
          refine ⟨rfl, ?_⟩
          unfold acc1
          rw [if_neg (by first | exact fun z => hs z.1 | exact fun z => ht z.2)]
          unfold phS
          rw [if_neg (by rw [kk]; rcases hkk with rfl | rfl | rfl | rfl | rfl <;> decide), if_neg (by rw [kk]; rcases hkk with rfl | rfl | rfl | rfl | rfl <;> decide), if_neg (by rw [kk]; rcases hkk with rfl | rfl | rfl | rfl | rfl <;> decide), if_neg (by rw [kk]; rcases hkk with rfl | rfl | rfl | rfl | rfl <;> decide), if_neg (by rw [kk]; rcases hkk with rfl | rfl | rfl | rfl | rfl <;> decide), ej]
          unfold meN
          rw [hmet]
          show RR E m (meet σ1 p (cN (σ1.1 0 n)) n (8 * p + j)) τ h
          rw [hq0, cN_nI (by omega)]
          exact hR
        · skip
          by_cases k38_5 : σ1.1 325 p = 5
          · refine G_tableIn 130 dX7_access_38 (by rw [k38_5]; decide) (by rw [k38_5]; decide) (off := 92) (by rw [k38_5]; rfl) (by decide) ?_
            refine G_aload_n 131 rfl rfl dX7_access_130 ?_
            refine G_aload_n 132 rfl rfl dX7_access_131 ?_
            have hk : ∃ k : Int32, σ1.1 325 p = k ∧ (k = 4 ∨ k = 5 ∨ k = 6 ∨ k = 7 ∨ k = 8) := by
              first
              | exact ⟨4, k38_4, Or.inl rfl⟩
              | exact ⟨5, k38_5, Or.inr (Or.inl rfl)⟩
              | exact ⟨6, k38_6, Or.inr (Or.inr (Or.inl rfl))⟩
              | exact ⟨7, k38_7, Or.inr (Or.inr (Or.inr (Or.inl rfl)))⟩
              | exact ⟨8, k38_8, Or.inr (Or.inr (Or.inr (Or.inr rfl)))⟩
            obtain ⟨k, kk, hkk⟩ := hk
            obtain ⟨j, c, hjg, hj, hch, hc, hv, hpb⟩ := hA1 (by rw [kk]; rcases hkk with rfl | rfl | rfl | rfl | rfl <;> decide)
            obtain ⟨n, q, hmet, hn, hq0, hq⟩ := hA2 (by rw [kk]; rcases hkk with rfl | rfl | rfl | rfl | rfl <;> decide)
            have ej : atN σ1 p = j := by unfold atN; rw [hj]; exact cN_nI (by omega)
            refine G_callV 135 rfl [.ref (aP E p)] (c_X7_accessToMeet hR hp hg hg8 hj hjg hw hwl hz hzb hmet hn hq0 hq (by rw [kk]; exact hkk)) ok_X7_accessToMeet ov_X7_accessToMeet ml_X7_192 (hR.ob (ci := 7) (i := 0) (by decide) rfl) ⟨by decide, rfl⟩ rfl ⟨by decide, by decide⟩ rfl rfl (Nat.le_of_ble_eq_true rfl) rfl dX7_access_132 ?_
            rintro v h ⟨rfl, hR⟩
            refine G_ret rfl ?_ dX7_access_135
            refine ⟨rfl, ?_⟩
            unfold acc1
            rw [if_neg (by first | exact fun z => hs z.1 | exact fun z => ht z.2)]
            unfold phS
            rw [if_neg (by rw [kk]; rcases hkk with rfl | rfl | rfl | rfl | rfl <;> decide), if_neg (by rw [kk]; rcases hkk with rfl | rfl | rfl | rfl | rfl <;> decide), if_neg (by rw [kk]; rcases hkk with rfl | rfl | rfl | rfl | rfl <;> decide), if_neg (by rw [kk]; rcases hkk with rfl | rfl | rfl | rfl | rfl <;> decide), if_neg (by rw [kk]; rcases hkk with rfl | rfl | rfl | rfl | rfl <;> decide), ej]
            unfold meN
            rw [hmet]
            show RR E m (meet σ1 p (cN (σ1.1 0 n)) n (8 * p + j)) τ h
            rw [hq0, cN_nI (by omega)]
            exact hR
          · skip
            by_cases k38_6 : σ1.1 325 p = 6
            · refine G_tableIn 130 dX7_access_38 (by rw [k38_6]; decide) (by rw [k38_6]; decide) (off := 92) (by rw [k38_6]; rfl) (by decide) ?_
              refine G_aload_n 131 rfl rfl dX7_access_130 ?_
              refine G_aload_n 132 rfl rfl dX7_access_131 ?_
              have hk : ∃ k : Int32, σ1.1 325 p = k ∧ (k = 4 ∨ k = 5 ∨ k = 6 ∨ k = 7 ∨ k = 8) := by
                first
                | exact ⟨4, k38_4, Or.inl rfl⟩
                | exact ⟨5, k38_5, Or.inr (Or.inl rfl)⟩
                | exact ⟨6, k38_6, Or.inr (Or.inr (Or.inl rfl))⟩
                | exact ⟨7, k38_7, Or.inr (Or.inr (Or.inr (Or.inl rfl)))⟩
                | exact ⟨8, k38_8, Or.inr (Or.inr (Or.inr (Or.inr rfl)))⟩
              obtain ⟨k, kk, hkk⟩ := hk
              obtain ⟨j, c, hjg, hj, hch, hc, hv, hpb⟩ := hA1 (by rw [kk]; rcases hkk with rfl | rfl | rfl | rfl | rfl <;> decide)
              obtain ⟨n, q, hmet, hn, hq0, hq⟩ := hA2 (by rw [kk]; rcases hkk with rfl | rfl | rfl | rfl | rfl <;> decide)
              have ej : atN σ1 p = j := by unfold atN; rw [hj]; exact cN_nI (by omega)
              refine G_callV 135 rfl [.ref (aP E p)] (c_X7_accessToMeet hR hp hg hg8 hj hjg hw hwl hz hzb hmet hn hq0 hq (by rw [kk]; exact hkk)) ok_X7_accessToMeet ov_X7_accessToMeet ml_X7_192 (hR.ob (ci := 7) (i := 0) (by decide) rfl) ⟨by decide, rfl⟩ rfl ⟨by decide, by decide⟩ rfl rfl (Nat.le_of_ble_eq_true rfl) rfl dX7_access_132 ?_
              rintro v h ⟨rfl, hR⟩
              refine G_ret rfl ?_ dX7_access_135
              refine ⟨rfl, ?_⟩
              unfold acc1
              rw [if_neg (by first | exact fun z => hs z.1 | exact fun z => ht z.2)]
              unfold phS
              rw [if_neg (by rw [kk]; rcases hkk with rfl | rfl | rfl | rfl | rfl <;> decide), if_neg (by rw [kk]; rcases hkk with rfl | rfl | rfl | rfl | rfl <;> decide), if_neg (by rw [kk]; rcases hkk with rfl | rfl | rfl | rfl | rfl <;> decide), if_neg (by rw [kk]; rcases hkk with rfl | rfl | rfl | rfl | rfl <;> decide), if_neg (by rw [kk]; rcases hkk with rfl | rfl | rfl | rfl | rfl <;> decide), ej]
              unfold meN
              rw [hmet]
              show RR E m (meet σ1 p (cN (σ1.1 0 n)) n (8 * p + j)) τ h
              rw [hq0, cN_nI (by omega)]
              exact hR
            · skip
              by_cases k38_7 : σ1.1 325 p = 7
              · refine G_tableIn 130 dX7_access_38 (by rw [k38_7]; decide) (by rw [k38_7]; decide) (off := 92) (by rw [k38_7]; rfl) (by decide) ?_
                refine G_aload_n 131 rfl rfl dX7_access_130 ?_
                refine G_aload_n 132 rfl rfl dX7_access_131 ?_
                have hk : ∃ k : Int32, σ1.1 325 p = k ∧ (k = 4 ∨ k = 5 ∨ k = 6 ∨ k = 7 ∨ k = 8) := by
                  first
                  | exact ⟨4, k38_4, Or.inl rfl⟩
                  | exact ⟨5, k38_5, Or.inr (Or.inl rfl)⟩
                  | exact ⟨6, k38_6, Or.inr (Or.inr (Or.inl rfl))⟩
                  | exact ⟨7, k38_7, Or.inr (Or.inr (Or.inr (Or.inl rfl)))⟩
                  | exact ⟨8, k38_8, Or.inr (Or.inr (Or.inr (Or.inr rfl)))⟩
                obtain ⟨k, kk, hkk⟩ := hk
                obtain ⟨j, c, hjg, hj, hch, hc, hv, hpb⟩ := hA1 (by rw [kk]; rcases hkk with rfl | rfl | rfl | rfl | rfl <;> decide)
                obtain ⟨n, q, hmet, hn, hq0, hq⟩ := hA2 (by rw [kk]; rcases hkk with rfl | rfl | rfl | rfl | rfl <;> decide)
                have ej : atN σ1 p = j := by unfold atN; rw [hj]; exact cN_nI (by omega)
                refine G_callV 135 rfl [.ref (aP E p)] (c_X7_accessToMeet hR hp hg hg8 hj hjg hw hwl hz hzb hmet hn hq0 hq (by rw [kk]; exact hkk)) ok_X7_accessToMeet ov_X7_accessToMeet ml_X7_192 (hR.ob (ci := 7) (i := 0) (by decide) rfl) ⟨by decide, rfl⟩ rfl ⟨by decide, by decide⟩ rfl rfl (Nat.le_of_ble_eq_true rfl) rfl dX7_access_132 ?_
                rintro v h ⟨rfl, hR⟩
                refine G_ret rfl ?_ dX7_access_135
                refine ⟨rfl, ?_⟩
                unfold acc1
                rw [if_neg (by first | exact fun z => hs z.1 | exact fun z => ht z.2)]
                unfold phS
                rw [if_neg (by rw [kk]; rcases hkk with rfl | rfl | rfl | rfl | rfl <;> decide), if_neg (by rw [kk]; rcases hkk with rfl | rfl | rfl | rfl | rfl <;> decide), if_neg (by rw [kk]; rcases hkk with rfl | rfl | rfl | rfl | rfl <;> decide), if_neg (by rw [kk]; rcases hkk with rfl | rfl | rfl | rfl | rfl <;> decide), if_neg (by rw [kk]; rcases hkk with rfl | rfl | rfl | rfl | rfl <;> decide), ej]
                unfold meN
                rw [hmet]
                show RR E m (meet σ1 p (cN (σ1.1 0 n)) n (8 * p + j)) τ h
                rw [hq0, cN_nI (by omega)]
                exact hR
              · skip
                by_cases k38_8 : σ1.1 325 p = 8
                · refine G_tableIn 130 dX7_access_38 (by rw [k38_8]; decide) (by rw [k38_8]; decide) (off := 92) (by rw [k38_8]; rfl) (by decide) ?_
                  refine G_aload_n 131 rfl rfl dX7_access_130 ?_
                  refine G_aload_n 132 rfl rfl dX7_access_131 ?_
                  have hk : ∃ k : Int32, σ1.1 325 p = k ∧ (k = 4 ∨ k = 5 ∨ k = 6 ∨ k = 7 ∨ k = 8) := by
                    first
                    | exact ⟨4, k38_4, Or.inl rfl⟩
                    | exact ⟨5, k38_5, Or.inr (Or.inl rfl)⟩
                    | exact ⟨6, k38_6, Or.inr (Or.inr (Or.inl rfl))⟩
                    | exact ⟨7, k38_7, Or.inr (Or.inr (Or.inr (Or.inl rfl)))⟩
                    | exact ⟨8, k38_8, Or.inr (Or.inr (Or.inr (Or.inr rfl)))⟩
                  obtain ⟨k, kk, hkk⟩ := hk
                  obtain ⟨j, c, hjg, hj, hch, hc, hv, hpb⟩ := hA1 (by rw [kk]; rcases hkk with rfl | rfl | rfl | rfl | rfl <;> decide)
                  obtain ⟨n, q, hmet, hn, hq0, hq⟩ := hA2 (by rw [kk]; rcases hkk with rfl | rfl | rfl | rfl | rfl <;> decide)
                  have ej : atN σ1 p = j := by unfold atN; rw [hj]; exact cN_nI (by omega)
                  refine G_callV 135 rfl [.ref (aP E p)] (c_X7_accessToMeet hR hp hg hg8 hj hjg hw hwl hz hzb hmet hn hq0 hq (by rw [kk]; exact hkk)) ok_X7_accessToMeet ov_X7_accessToMeet ml_X7_192 (hR.ob (ci := 7) (i := 0) (by decide) rfl) ⟨by decide, rfl⟩ rfl ⟨by decide, by decide⟩ rfl rfl (Nat.le_of_ble_eq_true rfl) rfl dX7_access_132 ?_
                  rintro v h ⟨rfl, hR⟩
                  refine G_ret rfl ?_ dX7_access_135
                  refine ⟨rfl, ?_⟩
                  unfold acc1
                  rw [if_neg (by first | exact fun z => hs z.1 | exact fun z => ht z.2)]
                  unfold phS
                  rw [if_neg (by rw [kk]; rcases hkk with rfl | rfl | rfl | rfl | rfl <;> decide), if_neg (by rw [kk]; rcases hkk with rfl | rfl | rfl | rfl | rfl <;> decide), if_neg (by rw [kk]; rcases hkk with rfl | rfl | rfl | rfl | rfl <;> decide), if_neg (by rw [kk]; rcases hkk with rfl | rfl | rfl | rfl | rfl <;> decide), if_neg (by rw [kk]; rcases hkk with rfl | rfl | rfl | rfl | rfl <;> decide), ej]
                  unfold meN
                  rw [hmet]
                  show RR E m (meet σ1 p (cN (σ1.1 0 n)) n (8 * p + j)) τ h
                  rw [hq0, cN_nI (by omega)]
                  exact hR
                · skip
                  by_cases k38_9 : σ1.1 325 p = 9
                  · refine G_tableIn 108 dX7_access_38 (by rw [k38_9]; decide) (by rw [k38_9]; decide) (off := 70) (by rw [k38_9]; rfl) (by decide) ?_
                    refine G_aload_n 109 rfl rfl dX7_access_108 ?_
                    refine G_callV 112 rfl [] (c_X5_endLooking hR hp hg hg8 hw hwl) ok_X5_endLooking ov_X5_endLooking ml_X7_183 (hR.ob (ci := 5) (i := p) (by decide) hp) ⟨by decide, rfl⟩ rfl ⟨by decide, by decide⟩ rfl rfl (Nat.le_of_ble_eq_true rfl) rfl dX7_access_109 ?_
                    rintro v h ⟨rfl, hR⟩
                    have hR : RR E m (endL σ1 p) τ h := by
                      unfold endL
                      rcases hR with ⟨x1, x2⟩ | ⟨x1, x2, x3⟩ | ⟨x1, x2, x3⟩
                      · rw [if_pos x1]; exact x2
                      · rw [if_neg x1, if_neg x2]; exact x3
                      · rw [if_neg x1, if_pos x2]; exact x3
                    refine G_goto 135 (by decide) dX7_access_112 ?_
                    refine G_ret rfl ?_ dX7_access_135
                    refine ⟨rfl, ?_⟩
                    unfold acc1
                    rw [if_neg (by first | exact fun z => hs z.1 | exact fun z => ht z.2)]
                    unfold phS
                    rw [if_neg k38_2, if_neg k38_3, if_pos k38_9]
                    exact hR
                  · skip
                    by_cases k38_10 : σ1.1 325 p = 10
                    · refine G_tableIn 115 dX7_access_38 (by rw [k38_10]; decide) (by rw [k38_10]; decide) (off := 77) (by rw [k38_10]; rfl) (by decide) ?_
                      refine G_aload_n 116 rfl rfl dX7_access_115 ?_
                      refine G_callV 119 rfl [] (c_X5_wakeIfSettled hR hp hw hwl) ok_X5_wakeIfSettled ov_X5_wakeIfSettled ml_X7_186 (hR.ob (ci := 5) (i := p) (by decide) hp) ⟨by decide, rfl⟩ rfl ⟨by decide, by decide⟩ rfl rfl (Nat.le_of_ble_eq_true rfl) rfl dX7_access_116 ?_
                      rintro v h ⟨rfl, hR⟩
                      have hR : RR E m (wake σ1 p) τ h := by
                        unfold wake
                        rcases hR with ⟨x1, x2⟩ | ⟨x1, x2⟩
                        · rw [if_pos x1]; exact x2
                        · rw [if_neg x1]; exact x2
                      refine G_goto 135 (by decide) dX7_access_119 ?_
                      refine G_ret rfl ?_ dX7_access_135
                      refine ⟨rfl, ?_⟩
                      unfold acc1
                      rw [if_neg (by first | exact fun z => hs z.1 | exact fun z => ht z.2)]
                      unfold phS
                      rw [if_neg k38_2, if_neg k38_3, if_neg k38_9, if_pos k38_10]
                      exact hR
                    · skip
                      by_cases k38_11 : σ1.1 325 p = 11
                      · refine G_tableIn 122 dX7_access_38 (by rw [k38_11]; decide) (by rw [k38_11]; decide) (off := 84) (by rw [k38_11]; rfl) (by decide) ?_
                        refine G_aload_n 123 rfl rfl dX7_access_122 ?_
                        refine G_aload_n 124 rfl rfl dX7_access_123 ?_
                        obtain ⟨n, c, hwn, hn, hec, hc, hv⟩ := hA3 k38_11
                        have hl8 := (hR.2.2.1.2.2.2.2.2.2.2 p hp).1
                        have hfe : fE σ1 p = some n := by unfold fE; rw [hw, cN_nI (by omega)]; exact hwn
                        refine G_callV 127 rfl [.ref (aP E p)] (c_X7_withdrawEntry hR hp hw hwn hn hec hc hv) ok_X7_withdrawEntry ov_X7_withdrawEntry ml_X7_189 (hR.ob (ci := 7) (i := 0) (by decide) rfl) ⟨by decide, rfl⟩ rfl ⟨by decide, by decide⟩ rfl rfl (Nat.le_of_ble_eq_true rfl) rfl dX7_access_124 ?_
                        rintro v h ⟨rfl, hR⟩
                        refine G_goto 135 (by decide) dX7_access_127 ?_
                        refine G_ret rfl ?_ dX7_access_135
                        refine ⟨rfl, ?_⟩
                        unfold acc1
                        rw [if_neg (by first | exact fun z => hs z.1 | exact fun z => ht z.2)]
                        unfold phS
                        rw [if_neg k38_2, if_neg k38_3, if_neg k38_9, if_neg k38_10, if_pos k38_11, hfe]
                        show RR E m (wdS σ1 p n (cN (σ1.1 3 n))) τ h
                        rw [hec, cN_nI (by omega)]
                        exact hR
                      · skip
                        exfalso
                        rcases ph_cases hph1 hph2 with x | x | x | x | x | x | x | x | x | x
                        · exact absurd x k38_2
                        · exact absurd x k38_3
                        · exact absurd x k38_4
                        · exact absurd x k38_5
                        · exact absurd x k38_6
                        · exact absurd x k38_7
                        · exact absurd x k38_8
                        · exact absurd x k38_9
                        · exact absurd x k38_10
                        · exact absurd x k38_11
end
section
def bOf0 (σ : Sg) (p : Nat) (k : Int32) : Sg := up (up (up (up (uP (up (uM (up (up (up (up (up (up σ 385 p (σ.1 385 p + 1)) 384 p 1) 386 p (-1)) 328 p (if σ.1 327 p ≤ 0 then -1 else k + σ.1 327 p)) 332 p 0) 333 p 0) p none) 334 p 0) p []) 336 p 0) 337 p 0) 338 p 0) 339 p 0
def bOf (σ : Sg) (p : Nat) (k : Int32) : Sg := match nxt σ p 0 with
  | none => up (up (bOf0 σ p k) 329 p 0) 325 p 9
  | some j => up (up (bOf0 σ p k) 329 p (nI j)) 325 p 2
/-- a counting loop: n places from a on -/
def ctA (f : Nat → Bool) : Nat → Nat → Int32 → Int32
  | 0, _, s => s
  | n + 1, a, s => ctA f n (a + 1) (if f a then s + 1 else s)
theorem ctA_congr {f g : Nat → Bool} : ∀ {n a : Nat} {s : Int32}, (∀ i, a ≤ i → i < a + n → f i = g i) → ctA f n a s = ctA g n a s := by
  intro n
  induction n with
  | zero => intro a s _; rfl
  | succ n ih =>
    intro a s h
    unfold ctA
    rw [h a (Nat.le_refl _) (by omega)]
    exact ih (fun i h1 h2 => h i (by omega) (by omega))
def smA (f : Nat → Int32) : Nat → Nat → Int32 → Int32
  | 0, _, s => s
  | n + 1, a, s => smA f n (a + 1) (s + f a)
/-- two guards of p and q match; some of the first gp and gq do -/
def mtG (σ : Sg) (p q i j : Nat) : Prop := ¬ σ.1 131 (8 * p + i) = 0 ∧ ¬ σ.1 131 (8 * q + j) = 0 ∧ σ.1 129 (8 * p + i) = σ.1 129 (8 * q + j) ∧ ¬ σ.1 128 (8 * p + i) = σ.1 128 (8 * q + j)
def mtC (σ : Sg) (p q gp gq : Nat) : Prop := ∃ i j, i < gp ∧ j < gq ∧ mtG σ p q i j
set_option maxHeartbeats 4000000 in
set_option maxRecDepth 100000 in
theorem c_X5_beginOffer {E : Ev} {m : Nat} {σ : Sg} {τ : Tu} {h : Hp} (hR : RR E m σ τ h) {p : Nat} (hp : p < m) {g : Nat} (hg : σ.1 326 p = nI g) (hg8 : g ≤ 8) (k : Int32) : Cn E mX5_beginOffer (rk 2 0 0) h [.ref (aP E p), .int k] (fun v h' => v = none ∧ RR E m (bOf σ p k) τ h') := by
  refine Cn_of (by decide) rfl (by simp [Value.category]) (Nat.le_of_ble_eq_true rfl) ?_
  refine G_aload_n 1 rfl rfl dX5_beginOffer_0 ?_
  refine G_p1 4 rfl hR fl_X5_12 hp dX5_beginOffer_1 ?_
  refine G_dup 5 rfl rfl dX5_beginOffer_4 ?_
  refine G_gi 8 rfl hR 6 1 p 385 (σ.1 385 p) fl_X5_67 hp rfl rfl rfl rfl dX5_beginOffer_5 ?_
  refine G_iconst 9 rfl (1) (by decide) dX5_beginOffer_8 ?_
  refine G_iadd 10 rfl dX5_beginOffer_9 ?_
  refine G_pi 13 rfl hR 6 1 p 385 fl_X5_67 hp rfl ⟨rfl, rfl⟩ rfl rfl dX5_beginOffer_10 (fun h hR => ?_)
  refine G_aload_n 14 rfl rfl dX5_beginOffer_13 ?_
  refine G_p1 17 rfl hR fl_X5_12 hp dX5_beginOffer_14 ?_
  refine G_iconst 18 rfl (1) (by decide) dX5_beginOffer_17 ?_
  refine G_callV 21 rfl [.int 1] (c_X6_become hR hp 1) ok_X6_become ov_X6_become ml_X5_70 (hR.ob (ci := 6) (i := p) (by decide) hp) ⟨by decide, rfl⟩ rfl ⟨by decide, by decide⟩ rfl rfl (Nat.le_of_ble_eq_true rfl) rfl dX5_beginOffer_18 ?_
  rintro v h ⟨rfl, hR⟩
  refine G_aload_n 22 rfl rfl dX5_beginOffer_21 ?_
  refine G_aload_n 23 rfl rfl dX5_beginOffer_22 ?_
  refine G_gi 26 rfl hR 5 7 p 327 (σ.1 327 p) fl_X5_51 hp rfl rfl rfl rfl dX5_beginOffer_23 ?_
  refine G_if_le 38 29 rfl (by decide) dX5_beginOffer_26 (fun c26 => ?_) (fun c26 => ?_)
  · skip
    refine G_iconst 39 rfl (-1) (by decide) dX5_beginOffer_38 ?_
    refine G_pi 42 rfl hR 5 8 p 328 fl_X5_41 hp rfl ⟨rfl, rfl⟩ rfl rfl dX5_beginOffer_39 (fun h hR => ?_)
    refine G_aload_n 43 rfl rfl dX5_beginOffer_42 ?_
    refine G_iconst 44 rfl (0) (by decide) dX5_beginOffer_43 ?_
    refine G_pz 47 rfl hR 5 12 p 332 fl_X5_74 hp rfl ⟨rfl, rfl⟩ (by decide) rfl rfl dX5_beginOffer_44 (fun h hR => ?_)
    refine G_aload_n 48 rfl rfl dX5_beginOffer_47 ?_
    refine G_iconst 49 rfl (0) (by decide) dX5_beginOffer_48 ?_
    refine G_pz 52 rfl hR 5 13 p 333 fl_X5_77 hp rfl ⟨rfl, rfl⟩ (by decide) rfl rfl dX5_beginOffer_49 (fun h hR => ?_)
    refine G_aload_n 53 rfl rfl dX5_beginOffer_52 ?_
    refine G_null 54 rfl dX5_beginOffer_53 ?_
    refine G_putMetN 57 rfl hR fl_X5_80 hp dX5_beginOffer_54 (fun h hR => ?_)
    refine G_aload_n 58 rfl rfl dX5_beginOffer_57 ?_
    refine G_iconst 59 rfl (0) (by decide) dX5_beginOffer_58 ?_
    refine G_pi 62 rfl hR 5 14 p 334 fl_X5_84 hp rfl ⟨rfl, rfl⟩ rfl rfl dX5_beginOffer_59 (fun h hR => ?_)
    refine G_aload_n 63 rfl rfl dX5_beginOffer_62 ?_
    refine G_iconst 64 rfl (0) (by decide) dX5_beginOffer_63 ?_
    refine G_putI 67 rfl (ci := 5) (k := 15) fl_X5_87 ⟨rfl, rfl, rfl⟩ (hR.ob (ci := 5) (i := p) (by decide) hp) dX5_beginOffer_64 ?_
    have hR := hR.pub0 hp
    revert hR
    generalize sI h (64 * 5 + 15) (aP E p) 0 = h2
    intro hR
    refine G_aload_n 68 rfl rfl dX5_beginOffer_67 ?_
    refine G_iconst 69 rfl (0) (by decide) dX5_beginOffer_68 ?_
    refine G_pi 72 rfl hR 5 16 p 336 fl_X5_90 hp rfl ⟨rfl, rfl⟩ rfl rfl dX5_beginOffer_69 (fun h hR => ?_)
    refine G_aload_n 73 rfl rfl dX5_beginOffer_72 ?_
    refine G_iconst 74 rfl (0) (by decide) dX5_beginOffer_73 ?_
    refine G_pi 77 rfl hR 5 17 p 337 fl_X5_93 hp rfl ⟨rfl, rfl⟩ rfl rfl dX5_beginOffer_74 (fun h hR => ?_)
    refine G_aload_n 78 rfl rfl dX5_beginOffer_77 ?_
    refine G_iconst 79 rfl (0) (by decide) dX5_beginOffer_78 ?_
    refine G_pz 82 rfl hR 5 18 p 338 fl_X5_96 hp rfl ⟨rfl, rfl⟩ (by decide) rfl rfl dX5_beginOffer_79 (fun h hR => ?_)
    refine G_aload_n 83 rfl rfl dX5_beginOffer_82 ?_
    refine G_iconst 84 rfl (0) (by decide) dX5_beginOffer_83 ?_
    refine G_pz 87 rfl hR 5 19 p 339 fl_X5_99 hp rfl ⟨rfl, rfl⟩ (by decide) rfl rfl dX5_beginOffer_84 (fun h hR => ?_)
    have hR : RR E m (bOf0 σ p k) τ h := by
      unfold bOf0
      first | (rw [if_pos c26]; exact hR) | (rw [if_neg c26]; exact hR)
    refine G_aload_n 88 rfl rfl dX5_beginOffer_87 ?_
    refine G_iconst 89 rfl (0) (by decide) dX5_beginOffer_88 ?_
    refine G_callV 92 rfl [.int 0] (c_X5_nextOn hR hp (g := g) hg hg8 0 (by omega)) ok_X5_nextOn ov_X5_nextOn ml_X5_102 (hR.ob (ci := 5) (i := p) (by decide) hp) ⟨by decide, rfl⟩ rfl ⟨by decide, by decide⟩ rfl rfl (Nat.le_of_ble_eq_true rfl) rfl dX5_beginOffer_89 ?_
    rintro v h' ⟨rfl, rfl⟩
    rw [show fOn (fun j => (bOf0 σ p k).1 131 (8 * p + j)) (g - 0) 0 = fOn (fun j => σ.1 131 (8 * p + j)) (g - 0) 0 from rfl]
    rcases hq : fOn (fun j => σ.1 131 (8 * p + j)) (g - 0) 0 with _ | j
    · skip
      refine G_istore_n 93 rfl (by decide) dX5_beginOffer_92 ?_
      refine G_aload_n 94 rfl rfl dX5_beginOffer_93 ?_
      refine G_iload_n 95 rfl rfl dX5_beginOffer_94 ?_
      refine G_iconst 96 rfl (0) (by decide) dX5_beginOffer_95 ?_
      refine G_mmax 99 rfl w_max_lX5 ⟨by decide, by decide⟩ (Nat.le_of_ble_eq_true rfl) dX5_beginOffer_96 ?_
      rw [if_pos (by decide)]
      refine G_pi 102 rfl hR 5 9 p 329 fl_X5_112 hp rfl ⟨rfl, rfl⟩ rfl rfl dX5_beginOffer_99 (fun h hR => ?_)
      refine G_aload_n 103 rfl rfl dX5_beginOffer_102 ?_
      refine G_iload_n 104 rfl rfl dX5_beginOffer_103 ?_
      refine G_iconst 105 rfl (-1) (by decide) dX5_beginOffer_104 ?_
      refine G_icmpF_ne 108 rfl rfl ⟨113, by decide⟩ dX5_beginOffer_105 ?_
      refine G_bipush 110 rfl (9) (by decide) dX5_beginOffer_108 ?_
      refine G_goto 114 (by decide) dX5_beginOffer_110 ?_
      refine G_pi 117 rfl hR 5 5 p 325 fl_X5_37 hp rfl ⟨rfl, rfl⟩ rfl rfl dX5_beginOffer_114 (fun h hR => ?_)
      refine G_ret rfl ?_ dX5_beginOffer_117
      refine ⟨rfl, ?_⟩
      unfold bOf nxt
      rw [hg, cN_nI (by omega), hq]
      exact hR
    · skip
      have hb := fOn_some hq
      refine G_istore_n 93 rfl (by decide) dX5_beginOffer_92 ?_
      refine G_aload_n 94 rfl rfl dX5_beginOffer_93 ?_
      refine G_iload_n 95 rfl rfl dX5_beginOffer_94 ?_
      refine G_iconst 96 rfl (0) (by decide) dX5_beginOffer_95 ?_
      refine G_mmax 99 rfl w_max_lX5 ⟨by decide, by decide⟩ (Nat.le_of_ble_eq_true rfl) dX5_beginOffer_96 ?_
      rw [if_neg (show ¬ oI (some j) < 0 from nI_pos (by omega))]
      refine G_pi 102 rfl hR 5 9 p 329 fl_X5_112 hp rfl ⟨rfl, rfl⟩ rfl rfl dX5_beginOffer_99 (fun h hR => ?_)
      refine G_aload_n 103 rfl rfl dX5_beginOffer_102 ?_
      refine G_iload_n 104 rfl rfl dX5_beginOffer_103 ?_
      refine G_iconst 105 rfl (-1) (by decide) dX5_beginOffer_104 ?_
      refine G_icmpT_ne 113 (oI_m1 (by omega)) (by decide) dX5_beginOffer_105 ?_
      refine G_iconst 114 rfl (2) (by decide) dX5_beginOffer_113 ?_
      refine G_pi 117 rfl hR 5 5 p 325 fl_X5_37 hp rfl ⟨rfl, rfl⟩ rfl rfl dX5_beginOffer_114 (fun h hR => ?_)
      refine G_ret rfl ?_ dX5_beginOffer_117
      refine ⟨rfl, ?_⟩
      unfold bOf nxt
      rw [hg, cN_nI (by omega), hq]
      exact hR
  · skip
    refine G_iload_n 30 rfl rfl dX5_beginOffer_29 ?_
    refine G_aload_n 31 rfl rfl dX5_beginOffer_30 ?_
    refine G_gi 34 rfl hR 5 7 p 327 (σ.1 327 p) fl_X5_51 hp rfl rfl rfl rfl dX5_beginOffer_31 ?_
    refine G_iadd 35 rfl dX5_beginOffer_34 ?_
    refine G_goto 39 (by decide) dX5_beginOffer_35 ?_
    refine G_pi 42 rfl hR 5 8 p 328 fl_X5_41 hp rfl ⟨rfl, rfl⟩ rfl rfl dX5_beginOffer_39 (fun h hR => ?_)
    refine G_aload_n 43 rfl rfl dX5_beginOffer_42 ?_
    refine G_iconst 44 rfl (0) (by decide) dX5_beginOffer_43 ?_
    refine G_pz 47 rfl hR 5 12 p 332 fl_X5_74 hp rfl ⟨rfl, rfl⟩ (by decide) rfl rfl dX5_beginOffer_44 (fun h hR => ?_)
    refine G_aload_n 48 rfl rfl dX5_beginOffer_47 ?_
    refine G_iconst 49 rfl (0) (by decide) dX5_beginOffer_48 ?_
    refine G_pz 52 rfl hR 5 13 p 333 fl_X5_77 hp rfl ⟨rfl, rfl⟩ (by decide) rfl rfl dX5_beginOffer_49 (fun h hR => ?_)
    refine G_aload_n 53 rfl rfl dX5_beginOffer_52 ?_
    refine G_null 54 rfl dX5_beginOffer_53 ?_
    refine G_putMetN 57 rfl hR fl_X5_80 hp dX5_beginOffer_54 (fun h hR => ?_)
    refine G_aload_n 58 rfl rfl dX5_beginOffer_57 ?_
    refine G_iconst 59 rfl (0) (by decide) dX5_beginOffer_58 ?_
    refine G_pi 62 rfl hR 5 14 p 334 fl_X5_84 hp rfl ⟨rfl, rfl⟩ rfl rfl dX5_beginOffer_59 (fun h hR => ?_)
    refine G_aload_n 63 rfl rfl dX5_beginOffer_62 ?_
    refine G_iconst 64 rfl (0) (by decide) dX5_beginOffer_63 ?_
    refine G_putI 67 rfl (ci := 5) (k := 15) fl_X5_87 ⟨rfl, rfl, rfl⟩ (hR.ob (ci := 5) (i := p) (by decide) hp) dX5_beginOffer_64 ?_
    have hR := hR.pub0 hp
    revert hR
    generalize sI h (64 * 5 + 15) (aP E p) 0 = h2
    intro hR
    refine G_aload_n 68 rfl rfl dX5_beginOffer_67 ?_
    refine G_iconst 69 rfl (0) (by decide) dX5_beginOffer_68 ?_
    refine G_pi 72 rfl hR 5 16 p 336 fl_X5_90 hp rfl ⟨rfl, rfl⟩ rfl rfl dX5_beginOffer_69 (fun h hR => ?_)
    refine G_aload_n 73 rfl rfl dX5_beginOffer_72 ?_
    refine G_iconst 74 rfl (0) (by decide) dX5_beginOffer_73 ?_
    refine G_pi 77 rfl hR 5 17 p 337 fl_X5_93 hp rfl ⟨rfl, rfl⟩ rfl rfl dX5_beginOffer_74 (fun h hR => ?_)
    refine G_aload_n 78 rfl rfl dX5_beginOffer_77 ?_
    refine G_iconst 79 rfl (0) (by decide) dX5_beginOffer_78 ?_
    refine G_pz 82 rfl hR 5 18 p 338 fl_X5_96 hp rfl ⟨rfl, rfl⟩ (by decide) rfl rfl dX5_beginOffer_79 (fun h hR => ?_)
    refine G_aload_n 83 rfl rfl dX5_beginOffer_82 ?_
    refine G_iconst 84 rfl (0) (by decide) dX5_beginOffer_83 ?_
    refine G_pz 87 rfl hR 5 19 p 339 fl_X5_99 hp rfl ⟨rfl, rfl⟩ (by decide) rfl rfl dX5_beginOffer_84 (fun h hR => ?_)
    have hR : RR E m (bOf0 σ p k) τ h := by
      unfold bOf0
      first | (rw [if_pos c26]; exact hR) | (rw [if_neg c26]; exact hR)
    refine G_aload_n 88 rfl rfl dX5_beginOffer_87 ?_
    refine G_iconst 89 rfl (0) (by decide) dX5_beginOffer_88 ?_
    refine G_callV 92 rfl [.int 0] (c_X5_nextOn hR hp (g := g) hg hg8 0 (by omega)) ok_X5_nextOn ov_X5_nextOn ml_X5_102 (hR.ob (ci := 5) (i := p) (by decide) hp) ⟨by decide, rfl⟩ rfl ⟨by decide, by decide⟩ rfl rfl (Nat.le_of_ble_eq_true rfl) rfl dX5_beginOffer_89 ?_
    rintro v h' ⟨rfl, rfl⟩
    rw [show fOn (fun j => (bOf0 σ p k).1 131 (8 * p + j)) (g - 0) 0 = fOn (fun j => σ.1 131 (8 * p + j)) (g - 0) 0 from rfl]
    rcases hq : fOn (fun j => σ.1 131 (8 * p + j)) (g - 0) 0 with _ | j
    · skip
      refine G_istore_n 93 rfl (by decide) dX5_beginOffer_92 ?_
      refine G_aload_n 94 rfl rfl dX5_beginOffer_93 ?_
      refine G_iload_n 95 rfl rfl dX5_beginOffer_94 ?_
      refine G_iconst 96 rfl (0) (by decide) dX5_beginOffer_95 ?_
      refine G_mmax 99 rfl w_max_lX5 ⟨by decide, by decide⟩ (Nat.le_of_ble_eq_true rfl) dX5_beginOffer_96 ?_
      rw [if_pos (by decide)]
      refine G_pi 102 rfl hR 5 9 p 329 fl_X5_112 hp rfl ⟨rfl, rfl⟩ rfl rfl dX5_beginOffer_99 (fun h hR => ?_)
      refine G_aload_n 103 rfl rfl dX5_beginOffer_102 ?_
      refine G_iload_n 104 rfl rfl dX5_beginOffer_103 ?_
      refine G_iconst 105 rfl (-1) (by decide) dX5_beginOffer_104 ?_
      refine G_icmpF_ne 108 rfl rfl ⟨113, by decide⟩ dX5_beginOffer_105 ?_
      refine G_bipush 110 rfl (9) (by decide) dX5_beginOffer_108 ?_
      refine G_goto 114 (by decide) dX5_beginOffer_110 ?_
      refine G_pi 117 rfl hR 5 5 p 325 fl_X5_37 hp rfl ⟨rfl, rfl⟩ rfl rfl dX5_beginOffer_114 (fun h hR => ?_)
      refine G_ret rfl ?_ dX5_beginOffer_117
      refine ⟨rfl, ?_⟩
      unfold bOf nxt
      rw [hg, cN_nI (by omega), hq]
      exact hR
    · skip
      have hb := fOn_some hq
      refine G_istore_n 93 rfl (by decide) dX5_beginOffer_92 ?_
      refine G_aload_n 94 rfl rfl dX5_beginOffer_93 ?_
      refine G_iload_n 95 rfl rfl dX5_beginOffer_94 ?_
      refine G_iconst 96 rfl (0) (by decide) dX5_beginOffer_95 ?_
      refine G_mmax 99 rfl w_max_lX5 ⟨by decide, by decide⟩ (Nat.le_of_ble_eq_true rfl) dX5_beginOffer_96 ?_
      rw [if_neg (show ¬ oI (some j) < 0 from nI_pos (by omega))]
      refine G_pi 102 rfl hR 5 9 p 329 fl_X5_112 hp rfl ⟨rfl, rfl⟩ rfl rfl dX5_beginOffer_99 (fun h hR => ?_)
      refine G_aload_n 103 rfl rfl dX5_beginOffer_102 ?_
      refine G_iload_n 104 rfl rfl dX5_beginOffer_103 ?_
      refine G_iconst 105 rfl (-1) (by decide) dX5_beginOffer_104 ?_
      refine G_icmpT_ne 113 (oI_m1 (by omega)) (by decide) dX5_beginOffer_105 ?_
      refine G_iconst 114 rfl (2) (by decide) dX5_beginOffer_113 ?_
      refine G_pi 117 rfl hR 5 5 p 325 fl_X5_37 hp rfl ⟨rfl, rfl⟩ rfl rfl dX5_beginOffer_114 (fun h hR => ?_)
      refine G_ret rfl ?_ dX5_beginOffer_117
      refine ⟨rfl, ?_⟩
      unfold bOf nxt
      rw [hg, cN_nI (by omega), hq]
      exact hR

set_option maxHeartbeats 4000000 in
set_option maxRecDepth 100000 in
theorem lpi_X5_matches {E : Ev} {m : Nat} {σ : Sg} {τ : Tu} {h : Hp} (hR : RR E m σ τ h) {p : Nat} (hp : p < m) {q : Nat} (hq : q < m) {gp gq : Nat} (hgp : σ.1 326 p = nI gp) (hgp8 : gp ≤ 8) (hgq : σ.1 326 q = nI gq) (hgq8 : gq ≤ 8) {a : Nat} (ha : a < gp) (hk : (∀ j, j < gq → ¬ mtG σ p q a j) → G E mX5_matches (rk 1 0 0) (fun v h' => ((mtC σ p q gp gq) ∧ v = some (.int 1) ∨ ¬ (mtC σ p q gp gq) ∧ v = some (.int 0)) ∧ h' = h) 64 [some (.ref (aP E p)), some (.ref (aP E q)), some (.int (nI a)), none] [] h 0 0) : ∀ (r b : Nat), b + r = gq → (∀ j, j < b → ¬ mtG σ p q a j) → G E mX5_matches (rk 1 0 0) (fun v h' => ((mtC σ p q gp gq) ∧ v = some (.int 1) ∨ ¬ (mtC σ p q gp gq) ∧ v = some (.int 0)) ∧ h' = h) 21 [some (.ref (aP E p)), some (.ref (aP E q)), some (.int (nI a)), some (.int (nI b))] [] h 0 0 := by
  intro r
  induction r with
  | zero =>
    intro b hb i1
    refine G_iload_n 22 rfl rfl dX5_matches_21 ?_
    refine G_aload_n 23 rfl rfl dX5_matches_22 ?_
    refine G_gi 26 rfl hR 5 6 q 326 (σ.1 326 q) fl_X5_48 hq rfl rfl rfl rfl dX5_matches_23 ?_
    refine G_icmpT_ge 64 (by rw [hgq]; exact nI_le (by omega) (by omega)) (by decide) dX5_matches_26 ?_
    refine G_lw [some (.ref (aP E p)), some (.ref (aP E q)), some (.int (nI a)), none] (by intro x y hx; rcases x with _ | _ | _ | _ | x <;> first | exact hx | cases hx) ?_
    exact hk (fun j hj => i1 j (by omega))
  | succ r ih =>
    intro b hb i1
    refine G_iload_n 22 rfl rfl dX5_matches_21 ?_
    refine G_aload_n 23 rfl rfl dX5_matches_22 ?_
    refine G_gi 26 rfl hR 5 6 q 326 (σ.1 326 q) fl_X5_48 hq rfl rfl rfl rfl dX5_matches_23 ?_
    refine G_icmpF_ge 29 rfl (by rw [hgq]; exact nI_ge (by omega) (by omega)) ⟨64, by decide⟩ dX5_matches_26 ?_
    refine G_iload_n 30 rfl rfl dX5_matches_29 ?_
    refine G_aload_n 31 rfl rfl dX5_matches_30 ?_
    refine G_p3 34 rfl hR fl_X5_27 hq dX5_matches_31 ?_
    refine G_lenGA 35 rfl hR hq dX5_matches_34 ?_
    refine G_icmpF_ge 38 rfl (nI_ge (b := 8) (by omega) (by omega)) ⟨64, by decide⟩ dX5_matches_35 ?_
    refine G_aload_n 39 rfl rfl dX5_matches_38 ?_
    refine G_p3 42 rfl hR fl_X5_27 hp dX5_matches_39 ?_
    refine G_iload_n 43 rfl rfl dX5_matches_42 ?_
    refine G_guards 44 rfl hR (p := p) (j := a) rfl hp (by omega) dX5_matches_43 ?_
    refine G_aload_n 45 rfl rfl dX5_matches_44 ?_
    refine G_p3 48 rfl hR fl_X5_27 hq dX5_matches_45 ?_
    refine G_iload_n 49 rfl rfl dX5_matches_48 ?_
    refine G_guards 50 rfl hR (p := q) (j := b) rfl hq (by omega) dX5_matches_49 ?_
    refine G_callV 53 rfl [.ref (aG E (8 * q + b))] (c_X2_matches hR (gvd hp (show a < 8 by omega)) (gvd hq (show b < 8 by omega))) ok_X2_matches ov_X2_matches ml_X5_136 (hR.ob (ci := 2) (i := 8 * p + a) (by decide) (gvd hp (by omega))) ⟨by decide, rfl⟩ rfl ⟨by decide, by decide⟩ rfl rfl (Nat.le_of_ble_eq_true rfl) rfl dX5_matches_50 ?_
    rintro v h' ⟨⟨hs, rfl⟩ | ⟨hs, rfl⟩, rfl⟩
    · skip
      refine G_ifF_eq 56 rfl (by decide) ⟨58, by decide⟩ dX5_matches_53 ?_
      refine G_iconst 57 rfl (1) (by decide) dX5_matches_56 ?_
      refine G_iret (ty := .boolean) rfl (by decide) ?_ dX5_matches_57
      exact ⟨Or.inl ⟨⟨a, b, by omega, by omega, hs⟩, rfl⟩, rfl⟩
    · skip
      refine G_ifT_eq 58 (by decide) (by decide) dX5_matches_53 ?_
      refine G_iinc 61 rfl (nI (b + 1)) rfl (inc1 b) (by decide) dX5_matches_58 ?_
      refine G_goto 21 (by decide) dX5_matches_61 ?_
      exact ih (b + 1) (by omega) (fun j hj => by
        rcases Nat.lt_or_ge j b with z | z
        · exact i1 j z
        · rw [show j = b by omega]; exact hs)
set_option maxHeartbeats 4000000 in
set_option maxRecDepth 100000 in
theorem lpo_X5_matches {E : Ev} {m : Nat} {σ : Sg} {τ : Tu} {h : Hp} (hR : RR E m σ τ h) {p : Nat} (hp : p < m) {q : Nat} (hq : q < m) {gp gq : Nat} (hgp : σ.1 326 p = nI gp) (hgp8 : gp ≤ 8) (hgq : σ.1 326 q = nI gq) (hgq8 : gq ≤ 8) : ∀ (r a : Nat), a + r = gp → (∀ i j, i < a → j < gq → ¬ mtG σ p q i j) → G E mX5_matches (rk 1 0 0) (fun v h' => ((mtC σ p q gp gq) ∧ v = some (.int 1) ∨ ¬ (mtC σ p q gp gq) ∧ v = some (.int 0)) ∧ h' = h) 2 [some (.ref (aP E p)), some (.ref (aP E q)), some (.int (nI a)), none] [] h 0 0 := by
  intro r
  induction r with
  | zero =>
    intro a ha i1
    refine G_iload_n 3 rfl rfl dX5_matches_2 ?_
    refine G_aload_n 4 rfl rfl dX5_matches_3 ?_
    refine G_gi 7 rfl hR 5 6 p 326 (σ.1 326 p) fl_X5_48 hp rfl rfl rfl rfl dX5_matches_4 ?_
    refine G_icmpT_ge 70 (by rw [hgp]; exact nI_le (by omega) (by omega)) (by decide) dX5_matches_7 ?_
    refine G_iconst 71 rfl (0) (by decide) dX5_matches_70 ?_
    refine G_iret (ty := .boolean) rfl (by decide) ?_ dX5_matches_71
    exact ⟨Or.inr ⟨fun ⟨i, j, z1, z2, z3⟩ => i1 i j (by omega) z2 z3, rfl⟩, rfl⟩
  | succ r ih =>
    intro a ha i1
    refine G_iload_n 3 rfl rfl dX5_matches_2 ?_
    refine G_aload_n 4 rfl rfl dX5_matches_3 ?_
    refine G_gi 7 rfl hR 5 6 p 326 (σ.1 326 p) fl_X5_48 hp rfl rfl rfl rfl dX5_matches_4 ?_
    refine G_icmpF_ge 10 rfl (by rw [hgp]; exact nI_ge (by omega) (by omega)) ⟨70, by decide⟩ dX5_matches_7 ?_
    refine G_iload_n 11 rfl rfl dX5_matches_10 ?_
    refine G_aload_n 12 rfl rfl dX5_matches_11 ?_
    refine G_p3 15 rfl hR fl_X5_27 hp dX5_matches_12 ?_
    refine G_lenGA 16 rfl hR hp dX5_matches_15 ?_
    refine G_icmpF_ge 19 rfl (nI_ge (b := 8) (by omega) (by omega)) ⟨70, by decide⟩ dX5_matches_16 ?_
    refine G_iconst 20 rfl (0) (by decide) dX5_matches_19 ?_
    refine G_istore_n 21 rfl (by decide) dX5_matches_20 ?_
    refine lpi_X5_matches hR hp hq hgp hgp8 hgq hgq8 (by omega) (fun i2 => ?_) gq 0 (by omega) (fun j hj => by omega)
    refine G_iinc 67 rfl (nI (a + 1)) rfl (inc1 a) (by decide) dX5_matches_64 ?_
    refine G_goto 2 (by decide) dX5_matches_67 ?_
    exact ih (a + 1) (by omega) (fun i j z1 z2 => by
      by_cases z : i = a
      · subst z; exact i2 j z2
      · exact i1 i j (by omega) z2)

set_option maxHeartbeats 4000000 in
set_option maxRecDepth 100000 in
theorem c_X5_matches {E : Ev} {m : Nat} {σ : Sg} {τ : Tu} {h : Hp} (hR : RR E m σ τ h) {p : Nat} (hp : p < m) {q : Nat} (hq : q < m) {gp gq : Nat} (hgp : σ.1 326 p = nI gp) (hgp8 : gp ≤ 8) (hgq : σ.1 326 q = nI gq) (hgq8 : gq ≤ 8) : Cn E mX5_matches (rk 1 0 0) h [.ref (aP E p), .ref (aP E q)] (fun v h' => ((mtC σ p q gp gq) ∧ v = some (.int 1) ∨ ¬ (mtC σ p q gp gq) ∧ v = some (.int 0)) ∧ h' = h) := by
  refine Cn_of (by decide) rfl (by simp [Value.category]) (Nat.le_of_ble_eq_true rfl) ?_
  refine G_iconst 1 rfl (0) (by decide) dX5_matches_0 ?_
  refine G_istore_n 2 rfl (by decide) dX5_matches_1 ?_
  exact lpo_X5_matches hR hp hq hgp hgp8 hgq hgq8 gp 0 (by omega) (fun i j z => by omega)

set_option maxHeartbeats 4000000 in
set_option maxRecDepth 100000 in
theorem c_X7_sleepUnmet {E : Ev} {m : Nat} {σ : Sg} {τ : Tu} {h : Hp} (hR : RR E m σ τ h) {p : Nat} (hp : p < m) {q : Nat} (hq : q < m) {gp gq : Nat} (hgp : σ.1 326 p = nI gp) (hgp8 : gp ≤ 8) (hgq : σ.1 326 q = nI gq) (hgq8 : gq ≤ 8) : Cn E mX7_sleepUnmet (rk 2 0 0) h [.ref (aP E p), .ref (aP E q)] (fun v h' => ((σ.1 325 p = 10 ∧ σ.1 325 q = 10 ∧ σ.1 384 p = 1 ∧ σ.1 384 q = 1 ∧ mtC σ p q gp gq) ∧ v = some (.int 1) ∨ ¬ (σ.1 325 p = 10 ∧ σ.1 325 q = 10 ∧ σ.1 384 p = 1 ∧ σ.1 384 q = 1 ∧ mtC σ p q gp gq) ∧ v = some (.int 0)) ∧ h' = h) := by
  refine Cn_of (by decide) rfl (by simp [Value.category]) (Nat.le_of_ble_eq_true rfl) ?_
  refine G_aload_n 1 rfl rfl dX7_sleepUnmet_0 ?_
  refine G_gi 4 rfl hR 5 5 p 325 (σ.1 325 p) fl_X7_48 hp rfl rfl rfl rfl dX7_sleepUnmet_1 ?_
  refine G_bipush 6 rfl (10) (by decide) dX7_sleepUnmet_4 ?_
  refine G_icmp_ne 52 9 rfl (by decide) dX7_sleepUnmet_6 (fun c6 => ?_) (fun c6 => ?_)
  · skip
    refine G_iconst 53 rfl (0) (by decide) dX7_sleepUnmet_52 ?_
    refine G_iret (ty := .boolean) rfl (by decide) ?_ dX7_sleepUnmet_53
    exact ⟨Or.inr ⟨by first | exact fun z => c6 z.1 | exact fun z => c15 z.2.1 | exact fun z => c26 z.2.2.1 | exact fun z => c37 z.2.2.2.1 | exact fun z => hs z.2.2.2.2, rfl⟩, rfl⟩
  · skip
    refine G_aload_n 10 rfl rfl dX7_sleepUnmet_9 ?_
    refine G_gi 13 rfl hR 5 5 q 325 (σ.1 325 q) fl_X7_48 hq rfl rfl rfl rfl dX7_sleepUnmet_10 ?_
    refine G_bipush 15 rfl (10) (by decide) dX7_sleepUnmet_13 ?_
    refine G_icmp_ne 52 18 rfl (by decide) dX7_sleepUnmet_15 (fun c15 => ?_) (fun c15 => ?_)
    · skip
      refine G_iconst 53 rfl (0) (by decide) dX7_sleepUnmet_52 ?_
      refine G_iret (ty := .boolean) rfl (by decide) ?_ dX7_sleepUnmet_53
      exact ⟨Or.inr ⟨by first | exact fun z => c6 z.1 | exact fun z => c15 z.2.1 | exact fun z => c26 z.2.2.1 | exact fun z => c37 z.2.2.2.1 | exact fun z => hs z.2.2.2.2, rfl⟩, rfl⟩
    · skip
      refine G_aload_n 19 rfl rfl dX7_sleepUnmet_18 ?_
      refine G_p1 22 rfl hR fl_X7_63 hp dX7_sleepUnmet_19 ?_
      refine G_gi 25 rfl hR 6 0 p 384 (σ.1 384 p) fl_X7_94 hp rfl rfl rfl rfl dX7_sleepUnmet_22 ?_
      refine G_iconst 26 rfl (1) (by decide) dX7_sleepUnmet_25 ?_
      refine G_icmp_ne 52 29 rfl (by decide) dX7_sleepUnmet_26 (fun c26 => ?_) (fun c26 => ?_)
      · skip
        refine G_iconst 53 rfl (0) (by decide) dX7_sleepUnmet_52 ?_
        refine G_iret (ty := .boolean) rfl (by decide) ?_ dX7_sleepUnmet_53
        exact ⟨Or.inr ⟨by first | exact fun z => c6 z.1 | exact fun z => c15 z.2.1 | exact fun z => c26 z.2.2.1 | exact fun z => c37 z.2.2.2.1 | exact fun z => hs z.2.2.2.2, rfl⟩, rfl⟩
      · skip
        refine G_aload_n 30 rfl rfl dX7_sleepUnmet_29 ?_
        refine G_p1 33 rfl hR fl_X7_63 hq dX7_sleepUnmet_30 ?_
        refine G_gi 36 rfl hR 6 0 q 384 (σ.1 384 q) fl_X7_94 hq rfl rfl rfl rfl dX7_sleepUnmet_33 ?_
        refine G_iconst 37 rfl (1) (by decide) dX7_sleepUnmet_36 ?_
        refine G_icmp_ne 52 40 rfl (by decide) dX7_sleepUnmet_37 (fun c37 => ?_) (fun c37 => ?_)
        · skip
          refine G_iconst 53 rfl (0) (by decide) dX7_sleepUnmet_52 ?_
          refine G_iret (ty := .boolean) rfl (by decide) ?_ dX7_sleepUnmet_53
          exact ⟨Or.inr ⟨by first | exact fun z => c6 z.1 | exact fun z => c15 z.2.1 | exact fun z => c26 z.2.2.1 | exact fun z => c37 z.2.2.2.1 | exact fun z => hs z.2.2.2.2, rfl⟩, rfl⟩
        · skip
          refine G_aload_n 41 rfl rfl dX7_sleepUnmet_40 ?_
          refine G_aload_n 42 rfl rfl dX7_sleepUnmet_41 ?_
          refine G_callV 45 rfl [.ref (aP E q)] (c_X5_matches hR hp hq hgp hgp8 hgq hgq8) ok_X5_matches ov_X5_matches ml_X7_163 (hR.ob (ci := 5) (i := p) (by decide) hp) ⟨by decide, rfl⟩ rfl ⟨by decide, by decide⟩ rfl rfl (Nat.le_of_ble_eq_true rfl) rfl dX7_sleepUnmet_42 ?_
          rintro v h' ⟨⟨hs, rfl⟩ | ⟨hs, rfl⟩, rfl⟩
          · skip
            refine G_ifF_eq 48 rfl (by decide) ⟨52, by decide⟩ dX7_sleepUnmet_45 ?_
            refine G_iconst 49 rfl (1) (by decide) dX7_sleepUnmet_48 ?_
            refine G_goto 53 (by decide) dX7_sleepUnmet_49 ?_
            refine G_iret (ty := .boolean) rfl (by decide) ?_ dX7_sleepUnmet_53
            exact ⟨Or.inl ⟨⟨c6, c15, c26, c37, hs⟩, rfl⟩, rfl⟩
          · skip
            refine G_ifT_eq 52 (by decide) (by decide) dX7_sleepUnmet_45 ?_
            refine G_iconst 53 rfl (0) (by decide) dX7_sleepUnmet_52 ?_
            refine G_iret (ty := .boolean) rfl (by decide) ?_ dX7_sleepUnmet_53
            exact ⟨Or.inr ⟨by first | exact fun z => c6 z.1 | exact fun z => c15 z.2.1 | exact fun z => c26 z.2.2.1 | exact fun z => c37 z.2.2.2.1 | exact fun z => hs z.2.2.2.2, rfl⟩, rfl⟩
end
section
def cncS (σ : Sg) (p : Nat) : Sg := if ¬ σ.1 325 p < 5 ∧ ¬ 8 < σ.1 325 p then putO σ p 5 else bWd (putO σ p 5) p
set_option maxHeartbeats 4000000 in
set_option maxRecDepth 100000 in
theorem c_X7_spawn {E : Ev} {m : Nat} {σ : Sg} {τ : Tu} {h : Hp} (hR : RR E m σ τ h) (i : Int32) : Cn E mX7_spawn (rk 2 0 0) h [.ref (aX E), .int i] (fun v h' => (∃ p, p < m ∧ i = nI p ∧ σ.1 325 p = 0 ∧ v = some (.int 1) ∧ RR E m (up (up (up σ 325 p 1) 326 p 0) 327 p 0) τ h') ∨ (((∀ p, p < m → i = nI p → ¬ σ.1 325 p = 0) ∨ False) ∧ v = some (.int 0) ∧ RR E m σ τ h')) := by
  refine Cn_of (by decide) rfl (by simp [Value.category]) (Nat.le_of_ble_eq_true rfl) ?_
  refine G_aload_n 1 rfl rfl dX7_spawn_0 ?_
  refine G_iload_n 2 rfl rfl dX7_spawn_1 ?_
  refine G_iconst 3 rfl (0) (by decide) dX7_spawn_2 ?_
  refine G_callV 6 rfl [.int i, .int 0] (c_X7_procIn hR i 0) ok_X7_procIn ov_X7_procIn ml_X7_41 (hR.ob (ci := 7) (i := 0) (by decide) rfl) ⟨by decide, rfl⟩ rfl ⟨by decide, by decide⟩ rfl rfl (Nat.le_of_ble_eq_true rfl) rfl dX7_spawn_3 ?_
  rintro v h' ⟨⟨p, hp, e, hph, rfl⟩ | ⟨hno, rfl⟩, rfl⟩
  · skip
    refine G_astore_n 7 rfl (by decide) dX7_spawn_6 ?_
    refine G_aload_n 8 rfl rfl dX7_spawn_7 ?_
    refine G_ifnonnull 13 (by decide) dX7_spawn_8 ?_
    refine G_aload_n 14 rfl rfl dX7_spawn_13 ?_
    refine G_callV 17 rfl [] (c_X5_becomeIdle hR hp) ok_X5_becomeIdle ov_X5_becomeIdle ml_X7_45 (hR.ob (ci := 5) (i := p) (by decide) hp) ⟨by decide, rfl⟩ rfl ⟨by decide, by decide⟩ rfl rfl (Nat.le_of_ble_eq_true rfl) rfl dX7_spawn_14 ?_
    rintro v h ⟨rfl, hR⟩
    refine G_iconst 18 rfl (1) (by decide) dX7_spawn_17 ?_
    refine G_iret (ty := .boolean) rfl (by decide) ?_ dX7_spawn_18
    exact Or.inl ⟨p, hp, e, hph, rfl, hR⟩
  · skip
    refine G_astore_nN 7 rfl (by decide) dX7_spawn_6 ?_
    refine G_aload_nN 8 rfl rfl dX7_spawn_7 ?_
    refine G_ifnonnullN 11 rfl dX7_spawn_8 ?_
    refine G_iconst 12 rfl (0) (by decide) dX7_spawn_11 ?_
    refine G_iret (ty := .boolean) rfl (by decide) ?_ dX7_spawn_12
    exact Or.inr ⟨Or.inl hno, rfl, hR⟩

set_option maxHeartbeats 4000000 in
set_option maxRecDepth 100000 in
theorem c_X7_quit {E : Ev} {m : Nat} {σ : Sg} {τ : Tu} {h : Hp} (hR : RR E m σ τ h) (i : Int32) : Cn E mX7_quit (rk 2 0 0) h [.ref (aX E), .int i] (fun v h' => (∃ p, p < m ∧ i = nI p ∧ σ.1 325 p = 1 ∧ v = some (.int 1) ∧ RR E m (up σ 325 p 0) τ h') ∨ (((∀ p, p < m → i = nI p → ¬ σ.1 325 p = 1) ∨ False) ∧ v = some (.int 0) ∧ RR E m σ τ h')) := by
  refine Cn_of (by decide) rfl (by simp [Value.category]) (Nat.le_of_ble_eq_true rfl) ?_
  refine G_aload_n 1 rfl rfl dX7_quit_0 ?_
  refine G_iload_n 2 rfl rfl dX7_quit_1 ?_
  refine G_iconst 3 rfl (1) (by decide) dX7_quit_2 ?_
  refine G_callV 6 rfl [.int i, .int 1] (c_X7_procIn hR i 1) ok_X7_procIn ov_X7_procIn ml_X7_41 (hR.ob (ci := 7) (i := 0) (by decide) rfl) ⟨by decide, rfl⟩ rfl ⟨by decide, by decide⟩ rfl rfl (Nat.le_of_ble_eq_true rfl) rfl dX7_quit_3 ?_
  rintro v h' ⟨⟨p, hp, e, hph, rfl⟩ | ⟨hno, rfl⟩, rfl⟩
  · skip
    refine G_astore_n 7 rfl (by decide) dX7_quit_6 ?_
    refine G_aload_n 8 rfl rfl dX7_quit_7 ?_
    refine G_ifnonnull 13 (by decide) dX7_quit_8 ?_
    refine G_aload_n 14 rfl rfl dX7_quit_13 ?_
    refine G_iconst 15 rfl (0) (by decide) dX7_quit_14 ?_
    refine G_pi 18 rfl hR 5 5 p 325 fl_X7_48 hp rfl ⟨rfl, rfl⟩ rfl rfl dX7_quit_15 (fun h hR => ?_)
    refine G_iconst 19 rfl (1) (by decide) dX7_quit_18 ?_
    refine G_iret (ty := .boolean) rfl (by decide) ?_ dX7_quit_19
    exact Or.inl ⟨p, hp, e, hph, rfl, hR⟩
  · skip
    refine G_astore_nN 7 rfl (by decide) dX7_quit_6 ?_
    refine G_aload_nN 8 rfl rfl dX7_quit_7 ?_
    refine G_ifnonnullN 11 rfl dX7_quit_8 ?_
    refine G_iconst 12 rfl (0) (by decide) dX7_quit_11 ?_
    refine G_iret (ty := .boolean) rfl (by decide) ?_ dX7_quit_12
    exact Or.inr ⟨Or.inl hno, rfl, hR⟩

set_option maxHeartbeats 4000000 in
set_option maxRecDepth 100000 in
theorem c_X7_finish {E : Ev} {m : Nat} {σ : Sg} {τ : Tu} {h : Hp} (hR : RR E m σ τ h) (i : Int32) : Cn E mX7_finish (rk 2 0 0) h [.ref (aX E), .int i] (fun v h' => (∃ p, p < m ∧ i = nI p ∧ σ.1 325 p = 12 ∧ v = some (.int 1) ∧ RR E m (up (up (up (up (up σ 384 p 0) 386 p (-1)) 325 p 1) 326 p 0) 327 p 0) τ h') ∨ (((∀ p, p < m → i = nI p → ¬ σ.1 325 p = 12) ∨ False) ∧ v = some (.int 0) ∧ RR E m σ τ h')) := by
  refine Cn_of (by decide) rfl (by simp [Value.category]) (Nat.le_of_ble_eq_true rfl) ?_
  refine G_aload_n 1 rfl rfl dX7_finish_0 ?_
  refine G_iload_n 2 rfl rfl dX7_finish_1 ?_
  refine G_bipush 4 rfl (12) (by decide) dX7_finish_2 ?_
  refine G_callV 7 rfl [.int i, .int 12] (c_X7_procIn hR i 12) ok_X7_procIn ov_X7_procIn ml_X7_41 (hR.ob (ci := 7) (i := 0) (by decide) rfl) ⟨by decide, rfl⟩ rfl ⟨by decide, by decide⟩ rfl rfl (Nat.le_of_ble_eq_true rfl) rfl dX7_finish_4 ?_
  rintro v h' ⟨⟨p, hp, e, hph, rfl⟩ | ⟨hno, rfl⟩, rfl⟩
  · skip
    refine G_astore_n 8 rfl (by decide) dX7_finish_7 ?_
    refine G_aload_n 9 rfl rfl dX7_finish_8 ?_
    refine G_ifnonnull 14 (by decide) dX7_finish_9 ?_
    refine G_aload_n 15 rfl rfl dX7_finish_14 ?_
    refine G_p1 18 rfl hR fl_X7_63 hp dX7_finish_15 ?_
    refine G_iconst 19 rfl (0) (by decide) dX7_finish_18 ?_
    refine G_callV 22 rfl [.int 0] (c_X6_become hR hp 0) ok_X6_become ov_X6_become ml_X7_107 (hR.ob (ci := 6) (i := p) (by decide) hp) ⟨by decide, rfl⟩ rfl ⟨by decide, by decide⟩ rfl rfl (Nat.le_of_ble_eq_true rfl) rfl dX7_finish_19 ?_
    rintro v h ⟨rfl, hR⟩
    refine G_aload_n 23 rfl rfl dX7_finish_22 ?_
    refine G_callV 26 rfl [] (c_X5_becomeIdle hR hp) ok_X5_becomeIdle ov_X5_becomeIdle ml_X7_45 (hR.ob (ci := 5) (i := p) (by decide) hp) ⟨by decide, rfl⟩ rfl ⟨by decide, by decide⟩ rfl rfl (Nat.le_of_ble_eq_true rfl) rfl dX7_finish_23 ?_
    rintro v h ⟨rfl, hR⟩
    refine G_iconst 27 rfl (1) (by decide) dX7_finish_26 ?_
    refine G_iret (ty := .boolean) rfl (by decide) ?_ dX7_finish_27
    exact Or.inl ⟨p, hp, e, hph, rfl, hR⟩
  · skip
    refine G_astore_nN 8 rfl (by decide) dX7_finish_7 ?_
    refine G_aload_nN 9 rfl rfl dX7_finish_8 ?_
    refine G_ifnonnullN 12 rfl dX7_finish_9 ?_
    refine G_iconst 13 rfl (0) (by decide) dX7_finish_12 ?_
    refine G_iret (ty := .boolean) rfl (by decide) ?_ dX7_finish_13
    exact Or.inr ⟨Or.inl hno, rfl, hR⟩

set_option maxHeartbeats 4000000 in
set_option maxRecDepth 100000 in
theorem c_X7_timeout {E : Ev} {m : Nat} {σ : Sg} {τ : Tu} {h : Hp} (hR : RR E m σ τ h) (i k : Int32) : Cn E mX7_timeout (rk 2 0 0) h [.ref (aX E), .int i, .int k] (fun v h' => (∃ p, p < m ∧ i = nI p ∧ σ.1 325 p = 1 ∧ ¬ k < 0 ∧ k ≤ 1000 ∧ v = some (.int 1) ∧ RR E m (up σ 327 p k) τ h') ∨ (((∀ p, p < m → i = nI p → ¬ σ.1 325 p = 1) ∨ (k < 0 ∨ ¬ k ≤ 1000)) ∧ v = some (.int 0) ∧ RR E m σ τ h')) := by
  refine Cn_of (by decide) rfl (by simp [Value.category]) (Nat.le_of_ble_eq_true rfl) ?_
  refine G_aload_n 1 rfl rfl dX7_timeout_0 ?_
  refine G_iload_n 2 rfl rfl dX7_timeout_1 ?_
  refine G_iconst 3 rfl (1) (by decide) dX7_timeout_2 ?_
  refine G_callV 6 rfl [.int i, .int 1] (c_X7_procIn hR i 1) ok_X7_procIn ov_X7_procIn ml_X7_41 (hR.ob (ci := 7) (i := 0) (by decide) rfl) ⟨by decide, rfl⟩ rfl ⟨by decide, by decide⟩ rfl rfl (Nat.le_of_ble_eq_true rfl) rfl dX7_timeout_3 ?_
  rintro v h' ⟨⟨p, hp, e, hph, rfl⟩ | ⟨hno, rfl⟩, rfl⟩
  · skip
    refine G_astore_n 7 rfl (by decide) dX7_timeout_6 ?_
    refine G_aload_n 8 rfl rfl dX7_timeout_7 ?_
    refine G_ifnull 11 rfl dX7_timeout_8 ?_
    refine G_iload_n 12 rfl rfl dX7_timeout_11 ?_
    refine G_if_lt 22 15 rfl (by decide) dX7_timeout_12 (fun c12 => ?_) (fun c12 => ?_)
    · skip
      refine G_iconst 23 rfl (0) (by decide) dX7_timeout_22 ?_
      refine G_iret (ty := .boolean) rfl (by decide) ?_ dX7_timeout_23
      exact Or.inr ⟨by first | exact Or.inl hno | exact Or.inr (Or.inl c12) | exact Or.inr (Or.inr c19), rfl, hR⟩
    · skip
      refine G_iload_n 16 rfl rfl dX7_timeout_15 ?_
      refine G_sipush 19 rfl (1000) (by decide) dX7_timeout_16 ?_
      refine G_icmp_le 24 22 rfl (by decide) dX7_timeout_19 (fun c19 => ?_) (fun c19 => ?_)
      · skip
        refine G_aload_n 25 rfl rfl dX7_timeout_24 ?_
        refine G_iload_n 26 rfl rfl dX7_timeout_25 ?_
        refine G_pi 29 rfl hR 5 7 p 327 fl_X7_60 hp rfl ⟨rfl, rfl⟩ rfl rfl dX7_timeout_26 (fun h hR => ?_)
        refine G_iconst 30 rfl (1) (by decide) dX7_timeout_29 ?_
        refine G_iret (ty := .boolean) rfl (by decide) ?_ dX7_timeout_30
        exact Or.inl ⟨p, hp, e, hph, c12, c19, rfl, hR⟩
      · skip
        refine G_iconst 23 rfl (0) (by decide) dX7_timeout_22 ?_
        refine G_iret (ty := .boolean) rfl (by decide) ?_ dX7_timeout_23
        exact Or.inr ⟨by first | exact Or.inl hno | exact Or.inr (Or.inl c12) | exact Or.inr (Or.inr c19), rfl, hR⟩
  · skip
    refine G_astore_nN 7 rfl (by decide) dX7_timeout_6 ?_
    refine G_aload_nN 8 rfl rfl dX7_timeout_7 ?_
    refine G_ifnullN 22 (by decide) dX7_timeout_8 ?_
    refine G_iconst 23 rfl (0) (by decide) dX7_timeout_22 ?_
    refine G_iret (ty := .boolean) rfl (by decide) ?_ dX7_timeout_23
    exact Or.inr ⟨by first | exact Or.inl hno | exact Or.inr (Or.inl c12) | exact Or.inr (Or.inr c19), rfl, hR⟩

set_option maxHeartbeats 4000000 in
set_option maxRecDepth 100000 in
theorem c_X7_offer {E : Ev} {m : Nat} {σ : Sg} {τ : Tu} {h : Hp} (hR : RR E m σ τ h) (i : Int32) (hgc : ∀ p, p < m → ∃ g, σ.1 326 p = nI g ∧ g ≤ 8) : Cn E mX7_offer (rk 3 0 0) h [.ref (aX E), .int i] (fun v h' => (∃ p, p < m ∧ i = nI p ∧ σ.1 325 p = 1 ∧ σ.1 385 p < 1000 ∧ v = some (.int 1) ∧ RR E m (bOf σ p (σ.1 451 0)) τ h') ∨ (((∀ p, p < m → i = nI p → ¬ σ.1 325 p = 1) ∨ (∃ p, p < m ∧ i = nI p ∧ ¬ σ.1 385 p < 1000)) ∧ v = some (.int 0) ∧ RR E m σ τ h')) := by
  refine Cn_of (by decide) rfl (by simp [Value.category]) (Nat.le_of_ble_eq_true rfl) ?_
  refine G_aload_n 1 rfl rfl dX7_offer_0 ?_
  refine G_iload_n 2 rfl rfl dX7_offer_1 ?_
  refine G_iconst 3 rfl (1) (by decide) dX7_offer_2 ?_
  refine G_callV 6 rfl [.int i, .int 1] (c_X7_procIn hR i 1) ok_X7_procIn ov_X7_procIn ml_X7_41 (hR.ob (ci := 7) (i := 0) (by decide) rfl) ⟨by decide, rfl⟩ rfl ⟨by decide, by decide⟩ rfl rfl (Nat.le_of_ble_eq_true rfl) rfl dX7_offer_3 ?_
  rintro v h' ⟨⟨p, hp, e, hph, rfl⟩ | ⟨hno, rfl⟩, rfl⟩
  · skip
    refine G_astore_n 7 rfl (by decide) dX7_offer_6 ?_
    refine G_aload_n 8 rfl rfl dX7_offer_7 ?_
    refine G_ifnull 11 rfl dX7_offer_8 ?_
    refine G_aload_n 12 rfl rfl dX7_offer_11 ?_
    refine G_p1 15 rfl hR fl_X7_63 hp dX7_offer_12 ?_
    refine G_gi 18 rfl hR 6 1 p 385 (σ.1 385 p) fl_X7_67 hp rfl rfl rfl rfl dX7_offer_15 ?_
    refine G_sipush 21 rfl (1000) (by decide) dX7_offer_18 ?_
    refine G_icmp_lt 26 24 rfl (by decide) dX7_offer_21 (fun c21 => ?_) (fun c21 => ?_)
    · skip
      refine G_aload_n 27 rfl rfl dX7_offer_26 ?_
      refine G_aload_n 28 rfl rfl dX7_offer_27 ?_
      refine G_gi 31 rfl hR 7 3 0 451 (σ.1 451 0) fl_X7_72 rfl rfl rfl rfl rfl dX7_offer_28 ?_
      obtain ⟨g, hg, hg8⟩ := hgc p hp
      refine G_callV 34 rfl [.int (σ.1 451 0)] (c_X5_beginOffer hR hp hg hg8 (σ.1 451 0)) ok_X5_beginOffer ov_X5_beginOffer ml_X7_75 (hR.ob (ci := 5) (i := p) (by decide) hp) ⟨by decide, rfl⟩ rfl ⟨by decide, by decide⟩ rfl rfl (Nat.le_of_ble_eq_true rfl) rfl dX7_offer_31 ?_
      rintro v h ⟨rfl, hR⟩
      refine G_iconst 35 rfl (1) (by decide) dX7_offer_34 ?_
      refine G_iret (ty := .boolean) rfl (by decide) ?_ dX7_offer_35
      exact Or.inl ⟨p, hp, e, hph, c21, rfl, hR⟩
    · skip
      refine G_iconst 25 rfl (0) (by decide) dX7_offer_24 ?_
      refine G_iret (ty := .boolean) rfl (by decide) ?_ dX7_offer_25
      exact Or.inr ⟨by first | exact Or.inl hno | exact Or.inr ⟨p, hp, e, c21⟩, rfl, hR⟩
  · skip
    refine G_astore_nN 7 rfl (by decide) dX7_offer_6 ?_
    refine G_aload_nN 8 rfl rfl dX7_offer_7 ?_
    refine G_ifnullN 24 (by decide) dX7_offer_8 ?_
    refine G_iconst 25 rfl (0) (by decide) dX7_offer_24 ?_
    refine G_iret (ty := .boolean) rfl (by decide) ?_ dX7_offer_25
    exact Or.inr ⟨by first | exact Or.inl hno | exact Or.inr ⟨p, hp, e, c21⟩, rfl, hR⟩

set_option maxHeartbeats 4000000 in
set_option maxRecDepth 100000 in
theorem c_X7_guard {E : Ev} {m : Nat} {σ : Sg} {τ : Tu} {h : Hp} (hR : RR E m σ τ h) (i a b c d : Int32) (hd01 : d = 0 ∨ d = 1) (hgc : ∀ p, p < m → ∃ g, σ.1 326 p = nI g ∧ g ≤ 8) : Cn E mX7_guard (rk 2 0 0) h [.ref (aX E), .int i, .int a, .int b, .int c, .int d] (fun v h' => (∃ p g, p < m ∧ i = nI p ∧ σ.1 325 p = 1 ∧ (a = 0 ∨ a = 1) ∧ (¬ b < 0 ∧ ¬ nI 8 ≤ b) ∧ σ.1 326 p = nI g ∧ g < 8 ∧ v = some (.int 1) ∧ RR E m (up (up (up (up (up σ 128 (8 * p + g) a) 129 (8 * p + g) b) 130 (8 * p + g) c) 131 (8 * p + g) d) 326 p (σ.1 326 p + 1)) τ h') ∨ (((∀ p, p < m → i = nI p → ¬ σ.1 325 p = 1) ∨ (¬ a = 0 ∧ ¬ a = 1) ∨ (b < 0 ∨ nI 8 ≤ b) ∨ (∃ p, p < m ∧ i = nI p ∧ σ.1 326 p = nI 8)) ∧ v = some (.int 0) ∧ RR E m σ τ h')) := by
  refine Cn_of (by decide) rfl (by simp [Value.category]) (Nat.le_of_ble_eq_true rfl) ?_
  refine G_aload_n 1 rfl rfl dX7_guard_0 ?_
  refine G_iload_n 2 rfl rfl dX7_guard_1 ?_
  refine G_iconst 3 rfl (1) (by decide) dX7_guard_2 ?_
  refine G_callV 6 rfl [.int i, .int 1] (c_X7_procIn hR i 1) ok_X7_procIn ov_X7_procIn ml_X7_41 (hR.ob (ci := 7) (i := 0) (by decide) rfl) ⟨by decide, rfl⟩ rfl ⟨by decide, by decide⟩ rfl rfl (Nat.le_of_ble_eq_true rfl) rfl dX7_guard_3 ?_
  rintro v h' ⟨⟨p, hp, e, hph, rfl⟩ | ⟨hno, rfl⟩, rfl⟩
  · skip
    refine G_astore 8 rfl (by decide) dX7_guard_6 ?_
    refine G_aload 10 rfl rfl dX7_guard_8 ?_
    refine G_ifnull 13 rfl dX7_guard_10 ?_
    refine G_iload_n 14 rfl rfl dX7_guard_13 ?_
    refine G_if_eq 22 17 rfl (by decide) dX7_guard_14 (fun c14 => ?_) (fun c14 => ?_)
    · skip
      refine G_aload_n 23 rfl rfl dX7_guard_22 ?_
      refine G_iload_n 24 rfl rfl dX7_guard_23 ?_
      refine G_callV 27 rfl [.int b] (c_X7_listAt hR b) ok_X7_listAt ov_X7_listAt ml_X7_52 (hR.ob (ci := 7) (i := 0) (by decide) rfl) ⟨by decide, rfl⟩ rfl ⟨by decide, by decide⟩ rfl rfl (Nat.le_of_ble_eq_true rfl) rfl dX7_guard_24 ?_
      rintro v h' ⟨⟨c', hc', e', rfl⟩ | ⟨e', rfl⟩, rfl⟩
      · skip
        refine G_ifnonnull 32 (by decide) dX7_guard_27 ?_
        refine G_aload 34 rfl rfl dX7_guard_32 ?_
        refine G_iload_n 35 rfl rfl dX7_guard_34 ?_
        refine G_iload_n 36 rfl rfl dX7_guard_35 ?_
        refine G_iload 38 rfl rfl dX7_guard_36 ?_
        refine G_iload 40 rfl rfl dX7_guard_38 ?_
        obtain ⟨g, hg, hg8⟩ := hgc p hp
        refine G_callV 43 rfl [.int a, .int b, .int c, .int d] (c_X5_addGuard hR hp hg hg8 a b c d hd01) ok_X5_addGuard ov_X5_addGuard ml_X7_56 (hR.ob (ci := 5) (i := p) (by decide) hp) ⟨by decide, rfl⟩ rfl ⟨by decide, by decide⟩ rfl rfl (Nat.le_of_ble_eq_true rfl) rfl dX7_guard_40 ?_
        rintro v h (⟨hlt, rfl, hR⟩ | ⟨hlt, rfl, hR⟩)
        · skip
          refine G_iret (ty := .boolean) rfl (by decide) ?_ dX7_guard_43
          exact Or.inl ⟨p, g, hp, e, hph, by first | exact Or.inl c14 | exact Or.inr c19, by rw [e']; exact ⟨nI_pos (by omega), nI_ge hc' (by omega)⟩, hg, hlt, rfl, hR⟩
        · skip
          refine G_iret (ty := .boolean) rfl (by decide) ?_ dX7_guard_43
          exact Or.inr ⟨Or.inr (Or.inr (Or.inr ⟨p, hp, e, by rw [hg, show g = 8 by omega]⟩)), rfl, hR⟩
      · skip
        refine G_ifnonnullN 30 rfl dX7_guard_27 ?_
        refine G_iconst 31 rfl (0) (by decide) dX7_guard_30 ?_
        refine G_iret (ty := .boolean) rfl (by decide) ?_ dX7_guard_31
        exact Or.inr ⟨by first | exact Or.inl hno | exact Or.inr (Or.inl ⟨c14, c19⟩) | exact Or.inr (Or.inr (Or.inl e')), rfl, hR⟩
    · skip
      refine G_iload_n 18 rfl rfl dX7_guard_17 ?_
      refine G_iconst 19 rfl (1) (by decide) dX7_guard_18 ?_
      refine G_icmp_ne 30 22 rfl (by decide) dX7_guard_19 (fun c19 => ?_) (fun c19 => ?_)
      · skip
        refine G_iconst 31 rfl (0) (by decide) dX7_guard_30 ?_
        refine G_iret (ty := .boolean) rfl (by decide) ?_ dX7_guard_31
        exact Or.inr ⟨by first | exact Or.inl hno | exact Or.inr (Or.inl ⟨c14, c19⟩) | exact Or.inr (Or.inr (Or.inl e')), rfl, hR⟩
      · skip
        refine G_aload_n 23 rfl rfl dX7_guard_22 ?_
        refine G_iload_n 24 rfl rfl dX7_guard_23 ?_
        refine G_callV 27 rfl [.int b] (c_X7_listAt hR b) ok_X7_listAt ov_X7_listAt ml_X7_52 (hR.ob (ci := 7) (i := 0) (by decide) rfl) ⟨by decide, rfl⟩ rfl ⟨by decide, by decide⟩ rfl rfl (Nat.le_of_ble_eq_true rfl) rfl dX7_guard_24 ?_
        rintro v h' ⟨⟨c', hc', e', rfl⟩ | ⟨e', rfl⟩, rfl⟩
        · skip
          refine G_ifnonnull 32 (by decide) dX7_guard_27 ?_
          refine G_aload 34 rfl rfl dX7_guard_32 ?_
          refine G_iload_n 35 rfl rfl dX7_guard_34 ?_
          refine G_iload_n 36 rfl rfl dX7_guard_35 ?_
          refine G_iload 38 rfl rfl dX7_guard_36 ?_
          refine G_iload 40 rfl rfl dX7_guard_38 ?_
          obtain ⟨g, hg, hg8⟩ := hgc p hp
          refine G_callV 43 rfl [.int a, .int b, .int c, .int d] (c_X5_addGuard hR hp hg hg8 a b c d hd01) ok_X5_addGuard ov_X5_addGuard ml_X7_56 (hR.ob (ci := 5) (i := p) (by decide) hp) ⟨by decide, rfl⟩ rfl ⟨by decide, by decide⟩ rfl rfl (Nat.le_of_ble_eq_true rfl) rfl dX7_guard_40 ?_
          rintro v h (⟨hlt, rfl, hR⟩ | ⟨hlt, rfl, hR⟩)
          · skip
            refine G_iret (ty := .boolean) rfl (by decide) ?_ dX7_guard_43
            exact Or.inl ⟨p, g, hp, e, hph, by first | exact Or.inl c14 | exact Or.inr c19, by rw [e']; exact ⟨nI_pos (by omega), nI_ge hc' (by omega)⟩, hg, hlt, rfl, hR⟩
          · skip
            refine G_iret (ty := .boolean) rfl (by decide) ?_ dX7_guard_43
            exact Or.inr ⟨Or.inr (Or.inr (Or.inr ⟨p, hp, e, by rw [hg, show g = 8 by omega]⟩)), rfl, hR⟩
        · skip
          refine G_ifnonnullN 30 rfl dX7_guard_27 ?_
          refine G_iconst 31 rfl (0) (by decide) dX7_guard_30 ?_
          refine G_iret (ty := .boolean) rfl (by decide) ?_ dX7_guard_31
          exact Or.inr ⟨by first | exact Or.inl hno | exact Or.inr (Or.inl ⟨c14, c19⟩) | exact Or.inr (Or.inr (Or.inl e')), rfl, hR⟩
  · skip
    refine G_astoreN 8 rfl (by decide) dX7_guard_6 ?_
    refine G_aloadN 10 rfl rfl dX7_guard_8 ?_
    refine G_ifnullN 30 (by decide) dX7_guard_10 ?_
    refine G_iconst 31 rfl (0) (by decide) dX7_guard_30 ?_
    refine G_iret (ty := .boolean) rfl (by decide) ?_ dX7_guard_31
    exact Or.inr ⟨by first | exact Or.inl hno | exact Or.inr (Or.inl ⟨c14, c19⟩) | exact Or.inr (Or.inr (Or.inl e')), rfl, hR⟩

set_option maxHeartbeats 4000000 in
set_option maxRecDepth 100000 in
theorem c_X7_cancel {E : Ev} {m : Nat} {σ : Sg} {τ : Tu} {h : Hp} (hR : RR E m σ τ h) (i : Int32) (hwd : ∀ p, p < m → ∃ w, σ.1 336 p = nI w ∧ w ≤ (sPb σ p).length) : Cn E mX7_cancel (rk 2 0 0) h [.ref (aX E), .int i] (fun v h' => (∃ p, p < m ∧ i = nI p ∧ (¬ σ.1 325 p < 2 ∧ ¬ 11 < σ.1 325 p) ∧ σ.1 384 p = 1 ∧ v = some (.int 1) ∧ RR E m (cncS σ p) τ h') ∨ (((i < 0 ∨ nI m ≤ i) ∨ ∃ p, p < m ∧ i = nI p ∧ (¬ (¬ σ.1 325 p < 2 ∧ ¬ 11 < σ.1 325 p) ∨ ¬ σ.1 384 p = 1)) ∧ v = some (.int 0) ∧ RR E m σ τ h')) := by
  refine Cn_of (by decide) rfl (by simp [Value.category]) (Nat.le_of_ble_eq_true rfl) ?_
  refine G_aload_n 1 rfl rfl dX7_cancel_0 ?_
  refine G_iload_n 2 rfl rfl dX7_cancel_1 ?_
  refine G_callV 5 rfl [.int i] (c_X7_procAt hR i) ok_X7_procAt ov_X7_procAt ml_X7_78 (hR.ob (ci := 7) (i := 0) (by decide) rfl) ⟨by decide, rfl⟩ rfl ⟨by decide, by decide⟩ rfl rfl (Nat.le_of_ble_eq_true rfl) rfl dX7_cancel_2 ?_
  rintro v h' ⟨⟨p, hp, e, rfl⟩ | ⟨e, rfl⟩, rfl⟩
  · skip
    refine G_astore_n 6 rfl (by decide) dX7_cancel_5 ?_
    refine G_aload_n 7 rfl rfl dX7_cancel_6 ?_
    refine G_ifnull 10 rfl dX7_cancel_7 ?_
    refine G_aload_n 11 rfl rfl dX7_cancel_10 ?_
    refine G_callV 14 rfl [] (c_X5_isOffering hR hp) ok_X5_isOffering ov_X5_isOffering ml_X7_82 (hR.ob (ci := 5) (i := p) (by decide) hp) ⟨by decide, rfl⟩ rfl ⟨by decide, by decide⟩ rfl rfl (Nat.le_of_ble_eq_true rfl) rfl dX7_cancel_11 ?_
    rintro v h' ⟨⟨hof, rfl⟩ | ⟨hof, rfl⟩, rfl⟩
    · skip
      refine G_ifF_eq 17 rfl (by decide) ⟨28, by decide⟩ dX7_cancel_14 ?_
      refine G_aload_n 18 rfl rfl dX7_cancel_17 ?_
      refine G_p1 21 rfl hR fl_X7_63 hp dX7_cancel_18 ?_
      refine G_gi 24 rfl hR 6 0 p 384 (σ.1 384 p) fl_X7_94 hp rfl rfl rfl rfl dX7_cancel_21 ?_
      refine G_iconst 25 rfl (1) (by decide) dX7_cancel_24 ?_
      refine G_icmp_eq 30 28 rfl (by decide) dX7_cancel_25 (fun c25 => ?_) (fun c25 => ?_)
      · skip
        refine G_aload_n 31 rfl rfl dX7_cancel_30 ?_
        refine G_aload_n 32 rfl rfl dX7_cancel_31 ?_
        refine G_iconst 33 rfl (5) (by decide) dX7_cancel_32 ?_
        refine G_callV 36 rfl [.ref (aP E p), .int 5] (c_X7_putOut hR hp 5) ok_X7_putOut ov_X7_putOut ml_X7_97 (hR.ob (ci := 7) (i := 0) (by decide) rfl) ⟨by decide, rfl⟩ rfl ⟨by decide, by decide⟩ rfl rfl (Nat.le_of_ble_eq_true rfl) rfl dX7_cancel_33 ?_
        rintro v h ⟨rfl, hR⟩
        refine G_aload_n 37 rfl rfl dX7_cancel_36 ?_
        refine G_callV 40 rfl [] (c_X5_isClaiming hR hp) ok_X5_isClaiming ov_X5_isClaiming ml_X7_101 (hR.ob (ci := 5) (i := p) (by decide) hp) ⟨by decide, rfl⟩ rfl ⟨by decide, by decide⟩ rfl rfl (Nat.le_of_ble_eq_true rfl) rfl dX7_cancel_37 ?_
        rintro v h' ⟨⟨hcm, rfl⟩ | ⟨hcm, rfl⟩, rfl⟩
        · skip
          refine G_ifT_ne 47 (by decide) (by decide) dX7_cancel_40 ?_
          refine G_iconst 48 rfl (1) (by decide) dX7_cancel_47 ?_
          refine G_iret (ty := .boolean) rfl (by decide) ?_ dX7_cancel_48
          rw [putO_f _ _ _ _ _ (by decide) (by decide) (by decide) (by decide) (by decide) (by decide)] at hcm
          refine Or.inl ⟨p, hp, e, hof, c25, rfl, ?_⟩
          unfold cncS
          rw [if_pos hcm]
          exact hR
        · skip
          refine G_ifF_ne 43 rfl (by decide) ⟨47, by decide⟩ dX7_cancel_40 ?_
          refine G_aload_n 44 rfl rfl dX7_cancel_43 ?_
          obtain ⟨w, hw, hwl⟩ := hwd p hp
          refine G_callV 47 rfl [] (c_X5_beginWithdraw hR hp (w := w) (by rw [putO_f _ _ _ _ _ (by decide) (by decide) (by decide) (by decide) (by decide) (by decide)]; exact hw) (by rw [show sPb (putO σ p 5) = sPb σ by unfold sPb; rw [putO_2]]; exact hwl)) ok_X5_beginWithdraw ov_X5_beginWithdraw ml_X7_104 (hR.ob (ci := 5) (i := p) (by decide) hp) ⟨by decide, rfl⟩ rfl ⟨by decide, by decide⟩ rfl rfl (Nat.le_of_ble_eq_true rfl) rfl dX7_cancel_44 ?_
          rintro v h ⟨rfl, hR⟩
          refine G_iconst 48 rfl (1) (by decide) dX7_cancel_47 ?_
          refine G_iret (ty := .boolean) rfl (by decide) ?_ dX7_cancel_48
          rw [putO_f _ _ _ _ _ (by decide) (by decide) (by decide) (by decide) (by decide) (by decide)] at hcm
          refine Or.inl ⟨p, hp, e, hof, c25, rfl, ?_⟩
          unfold cncS
          rw [if_neg hcm]
          exact hR
      · skip
        refine G_iconst 29 rfl (0) (by decide) dX7_cancel_28 ?_
        refine G_iret (ty := .boolean) rfl (by decide) ?_ dX7_cancel_29
        exact Or.inr ⟨by first | exact Or.inl e | exact Or.inr ⟨p, hp, e, Or.inl hof⟩ | exact Or.inr ⟨p, hp, e, Or.inr c25⟩, rfl, hR⟩
    · skip
      refine G_ifT_eq 28 (by decide) (by decide) dX7_cancel_14 ?_
      refine G_iconst 29 rfl (0) (by decide) dX7_cancel_28 ?_
      refine G_iret (ty := .boolean) rfl (by decide) ?_ dX7_cancel_29
      exact Or.inr ⟨by first | exact Or.inl e | exact Or.inr ⟨p, hp, e, Or.inl hof⟩ | exact Or.inr ⟨p, hp, e, Or.inr c25⟩, rfl, hR⟩
  · skip
    refine G_astore_nN 6 rfl (by decide) dX7_cancel_5 ?_
    refine G_aload_nN 7 rfl rfl dX7_cancel_6 ?_
    refine G_ifnullN 28 (by decide) dX7_cancel_7 ?_
    refine G_iconst 29 rfl (0) (by decide) dX7_cancel_28 ?_
    refine G_iret (ty := .boolean) rfl (by decide) ?_ dX7_cancel_29
    exact Or.inr ⟨by first | exact Or.inl e | exact Or.inr ⟨p, hp, e, Or.inl hof⟩ | exact Or.inr ⟨p, hp, e, Or.inr c25⟩, rfl, hR⟩

set_option maxHeartbeats 4000000 in
set_option maxRecDepth 100000 in
theorem c_X7_tick {E : Ev} {m : Nat} {σ : Sg} {τ : Tu} {h : Hp} (hR : RR E m σ τ h)  : Cn E mX7_tick (rk 0 0 0) h [.ref (aX E)] (fun v h' => v = some (.int (σ.1 451 0 + 1)) ∧ RR E m (up σ 451 0 (σ.1 451 0 + 1)) τ h') := by
  refine Cn_of (by decide) rfl (by simp [Value.category]) (Nat.le_of_ble_eq_true rfl) ?_
  refine G_aload_n 1 rfl rfl dX7_tick_0 ?_
  refine G_dup 2 rfl rfl dX7_tick_1 ?_
  refine G_gi 5 rfl hR 7 3 0 451 (σ.1 451 0) fl_X7_72 rfl rfl rfl rfl rfl dX7_tick_2 ?_
  refine G_iconst 6 rfl (1) (by decide) dX7_tick_5 ?_
  refine G_iadd 7 rfl dX7_tick_6 ?_
  refine G_pi 10 rfl hR 7 3 0 451 fl_X7_72 rfl rfl ⟨rfl, rfl⟩ rfl rfl dX7_tick_7 (fun h hR => ?_)
  refine G_aload_n 11 rfl rfl dX7_tick_10 ?_
  refine G_gi 14 rfl hR 7 3 0 451 ((σ.1 451 0) + 1) fl_X7_72 rfl rfl rfl rfl (by simp [up]) dX7_tick_11 ?_
  refine G_iret (ty := .int) rfl rfl ?_ dX7_tick_14
  exact ⟨rfl, hR⟩

set_option maxHeartbeats 4000000 in
set_option maxRecDepth 100000 in
theorem c_X7_phase {E : Ev} {m : Nat} {σ : Sg} {τ : Tu} {h : Hp} (hR : RR E m σ τ h) (i : Int32) : Cn E mX7_phase (rk 1 0 0) h [.ref (aX E), .int i] (fun v h' => ((∃ p, p < m ∧ i = nI p ∧ v = some (.int (σ.1 325 p))) ∨ ((i < 0 ∨ nI m ≤ i) ∧ v = some (.int (-1)))) ∧ h' = h) := by
  refine Cn_of (by decide) rfl (by simp [Value.category]) (Nat.le_of_ble_eq_true rfl) ?_
  refine G_aload_n 1 rfl rfl dX7_phase_0 ?_
  refine G_iload_n 2 rfl rfl dX7_phase_1 ?_
  refine G_callV 5 rfl [.int i] (c_X7_procAt hR i) ok_X7_procAt ov_X7_procAt ml_X7_78 (hR.ob (ci := 7) (i := 0) (by decide) rfl) ⟨by decide, rfl⟩ rfl ⟨by decide, by decide⟩ rfl rfl (Nat.le_of_ble_eq_true rfl) rfl dX7_phase_2 ?_
  rintro v h' ⟨⟨p, hp, e, rfl⟩ | ⟨e, rfl⟩, rfl⟩
  · skip
    refine G_astore_n 6 rfl (by decide) dX7_phase_5 ?_
    refine G_aload_n 7 rfl rfl dX7_phase_6 ?_
    refine G_ifnonnull 14 (by decide) dX7_phase_7 ?_
    refine G_aload_n 15 rfl rfl dX7_phase_14 ?_
    refine G_gi 18 rfl hR 5 5 p 325 (σ.1 325 p) fl_X7_48 hp rfl rfl rfl rfl dX7_phase_15 ?_
    refine G_iret (ty := .int) rfl rfl ?_ dX7_phase_18
    exact ⟨Or.inl ⟨p, hp, e, rfl⟩, rfl⟩
  · skip
    refine G_astore_nN 6 rfl (by decide) dX7_phase_5 ?_
    refine G_aload_nN 7 rfl rfl dX7_phase_6 ?_
    refine G_ifnonnullN 10 rfl dX7_phase_7 ?_
    refine G_iconst 11 rfl (-1) (by decide) dX7_phase_10 ?_
    refine G_goto 18 (by decide) dX7_phase_11 ?_
    refine G_iret (ty := .int) rfl rfl ?_ dX7_phase_18
    exact ⟨Or.inr ⟨e, rfl⟩, rfl⟩

set_option maxHeartbeats 4000000 in
set_option maxRecDepth 100000 in
theorem c_X7_word {E : Ev} {m : Nat} {σ : Sg} {τ : Tu} {h : Hp} (hR : RR E m σ τ h) (i : Int32) (k : Int32) : Cn E mX7_word (rk 1 0 0) h [.ref (aX E), .int i, .int k] (fun v h' => ((∃ p, p < m ∧ i = nI p ∧ v = some (.int (if k = 0 then σ.1 384 p else if k = 1 then σ.1 385 p else if k = 2 then σ.1 386 p else -1))) ∨ ((i < 0 ∨ nI m ≤ i) ∧ v = some (.int (-1)))) ∧ h' = h) := by
  refine Cn_of (by decide) rfl (by simp [Value.category]) (Nat.le_of_ble_eq_true rfl) ?_
  refine G_aload_n 1 rfl rfl dX7_word_0 ?_
  refine G_iload_n 2 rfl rfl dX7_word_1 ?_
  refine G_callV 5 rfl [.int i] (c_X7_procAt hR i) ok_X7_procAt ov_X7_procAt ml_X7_78 (hR.ob (ci := 7) (i := 0) (by decide) rfl) ⟨by decide, rfl⟩ rfl ⟨by decide, by decide⟩ rfl rfl (Nat.le_of_ble_eq_true rfl) rfl dX7_word_2 ?_
  rintro v h' ⟨⟨p, hp, e, rfl⟩ | ⟨e, rfl⟩, rfl⟩
  · skip
    refine G_astore_n 6 rfl (by decide) dX7_word_5 ?_
    refine G_aload_n 7 rfl rfl dX7_word_6 ?_
    refine G_ifnonnull 14 (by decide) dX7_word_7 ?_
    refine G_aload_n 15 rfl rfl dX7_word_14 ?_
    refine G_p1 18 rfl hR fl_X7_63 hp dX7_word_15 ?_
    refine G_iload_n 19 rfl rfl dX7_word_18 ?_
    refine G_callV 22 rfl [.int k] (c_X6_part hR hp k) ok_X6_part ov_X6_part ml_X7_114 (hR.ob (ci := 6) (i := p) (by decide) hp) ⟨by decide, rfl⟩ rfl ⟨by decide, by decide⟩ rfl rfl (Nat.le_of_ble_eq_true rfl) rfl dX7_word_19 ?_
    rintro v h' ⟨rfl, rfl⟩
    refine G_iret (ty := .int) rfl rfl ?_ dX7_word_22
    exact ⟨Or.inl ⟨p, hp, e, rfl⟩, rfl⟩
  · skip
    refine G_astore_nN 6 rfl (by decide) dX7_word_5 ?_
    refine G_aload_nN 7 rfl rfl dX7_word_6 ?_
    refine G_ifnonnullN 10 rfl dX7_word_7 ?_
    refine G_iconst 11 rfl (-1) (by decide) dX7_word_10 ?_
    refine G_goto 22 (by decide) dX7_word_11 ?_
    refine G_iret (ty := .int) rfl rfl ?_ dX7_word_22
    exact ⟨Or.inr ⟨e, rfl⟩, rfl⟩

set_option maxHeartbeats 4000000 in
set_option maxRecDepth 100000 in
theorem c_X7_outcome {E : Ev} {m : Nat} {σ : Sg} {τ : Tu} {h : Hp} (hR : RR E m σ τ h) (i : Int32) (k : Int32) : Cn E mX7_outcome (rk 1 0 0) h [.ref (aX E), .int i, .int k] (fun v h' => ((∃ p, p < m ∧ i = nI p ∧ v = some (.int (if σ.1 192 p = 0 then -1 else if k = 0 then σ.1 193 p else if k = 1 then σ.1 194 p else if k = 2 then σ.1 195 p else if k = 3 then σ.1 196 p else -1))) ∨ ((i < 0 ∨ nI m ≤ i) ∧ v = some (.int (-1)))) ∧ h' = h) := by
  refine Cn_of (by decide) rfl (by simp [Value.category]) (Nat.le_of_ble_eq_true rfl) ?_
  refine G_aload_n 1 rfl rfl dX7_outcome_0 ?_
  refine G_iload_n 2 rfl rfl dX7_outcome_1 ?_
  refine G_callV 5 rfl [.int i] (c_X7_procAt hR i) ok_X7_procAt ov_X7_procAt ml_X7_78 (hR.ob (ci := 7) (i := 0) (by decide) rfl) ⟨by decide, rfl⟩ rfl ⟨by decide, by decide⟩ rfl rfl (Nat.le_of_ble_eq_true rfl) rfl dX7_outcome_2 ?_
  rintro v h' ⟨⟨p, hp, e, rfl⟩ | ⟨e, rfl⟩, rfl⟩
  · skip
    refine G_astore_n 6 rfl (by decide) dX7_outcome_5 ?_
    refine G_aload_n 7 rfl rfl dX7_outcome_6 ?_
    refine G_ifnonnull 14 (by decide) dX7_outcome_7 ?_
    refine G_aload_n 15 rfl rfl dX7_outcome_14 ?_
    refine G_p2 18 rfl hR fl_X7_118 hp dX7_outcome_15 ?_
    refine G_iload_n 19 rfl rfl dX7_outcome_18 ?_
    refine G_callV 22 rfl [.int k] (c_X3_part hR hp k) ok_X3_part ov_X3_part ml_X7_122 (hR.ob (ci := 3) (i := p) (by decide) hp) ⟨by decide, rfl⟩ rfl ⟨by decide, by decide⟩ rfl rfl (Nat.le_of_ble_eq_true rfl) rfl dX7_outcome_19 ?_
    rintro v h' ⟨rfl, rfl⟩
    refine G_iret (ty := .int) rfl rfl ?_ dX7_outcome_22
    exact ⟨Or.inl ⟨p, hp, e, rfl⟩, rfl⟩
  · skip
    refine G_astore_nN 6 rfl (by decide) dX7_outcome_5 ?_
    refine G_aload_nN 7 rfl rfl dX7_outcome_6 ?_
    refine G_ifnonnullN 10 rfl dX7_outcome_7 ?_
    refine G_iconst 11 rfl (-1) (by decide) dX7_outcome_10 ?_
    refine G_goto 22 (by decide) dX7_outcome_11 ?_
    refine G_iret (ty := .int) rfl rfl ?_ dX7_outcome_22
    exact ⟨Or.inr ⟨e, rfl⟩, rfl⟩

set_option maxHeartbeats 4000000 in
set_option maxRecDepth 100000 in
theorem c_X7_entry {E : Ev} {m : Nat} {σ : Sg} {τ : Tu} {h : Hp} (hR : RR E m σ τ h) (b i k : Int32) (hv : ∀ c, c < 8 → ∀ n ∈ sLs σ c, 1 ≤ n ∧ n ≤ sNp σ) : Cn E mX7_entry (rk 1 0 0) h [.ref (aX E), .int b, .int i, .int k] (fun v h' => ((∃ c j n, c < 8 ∧ b = nI c ∧ i = nI j ∧ (sLs σ c)[j]? = some n ∧ v = some (.int (if k = 0 then σ.1 0 n else if k = 1 then σ.1 2 n else if k = 2 then σ.1 4 n else if k = 3 then nI n else if k = 4 then σ.1 1 n else -1))) ∨ (((b < 0 ∨ nI 8 ≤ b) ∨ ∃ c, c < 8 ∧ b = nI c ∧ (i < 0 ∨ nI (sLs σ c).length ≤ i)) ∧ v = some (.int (-1)))) ∧ h' = h) := by
  refine Cn_of (by decide) rfl (by simp [Value.category]) (Nat.le_of_ble_eq_true rfl) ?_
  refine G_aload_n 1 rfl rfl dX7_entry_0 ?_
  refine G_iload_n 2 rfl rfl dX7_entry_1 ?_
  refine G_callV 5 rfl [.int b] (c_X7_listAt hR b) ok_X7_listAt ov_X7_listAt ml_X7_52 (hR.ob (ci := 7) (i := 0) (by decide) rfl) ⟨by decide, rfl⟩ rfl ⟨by decide, by decide⟩ rfl rfl (Nat.le_of_ble_eq_true rfl) rfl dX7_entry_2 ?_
  rintro v h' ⟨⟨c, hc, e, rfl⟩ | ⟨e, rfl⟩, rfl⟩
  · skip
    refine G_astore 7 rfl (by decide) dX7_entry_5 ?_
    refine G_aload 9 rfl rfl dX7_entry_7 ?_
    refine G_ifnonnull 16 (by decide) dX7_entry_9 ?_
    refine G_aload 18 rfl rfl dX7_entry_16 ?_
    refine G_iload_n 19 rfl rfl dX7_entry_18 ?_
    refine G_callV 22 rfl [.int i] (c_X1_at hR hc i) ok_X1_at ov_X1_at ml_X7_125 (hR.ob (ci := 1) (i := c) (by decide) hc) ⟨by decide, rfl⟩ rfl ⟨by decide, by decide⟩ rfl rfl (Nat.le_of_ble_eq_true rfl) rfl dX7_entry_19 ?_
    rintro v h' ⟨⟨j, n, e2, hj, rfl⟩ | ⟨e2, rfl⟩, rfl⟩
    · skip
      refine G_astore 24 rfl (by decide) dX7_entry_22 ?_
      refine G_aload 26 rfl rfl dX7_entry_24 ?_
      refine G_ifnonnull 33 (by decide) dX7_entry_26 ?_
      refine G_aload 35 rfl rfl dX7_entry_33 ?_
      refine G_iload_n 36 rfl rfl dX7_entry_35 ?_
      refine G_callV 39 rfl [.int k] (c_X0_part hR (hv c hc n (List.mem_of_getElem? hj)) k) ok_X0_part ov_X0_part ml_X7_129 (hR.ob (ci := 0) (i := n) (by decide) (hv c hc n (List.mem_of_getElem? hj))) ⟨by decide, rfl⟩ rfl ⟨by decide, by decide⟩ rfl rfl (Nat.le_of_ble_eq_true rfl) rfl dX7_entry_36 ?_
      rintro v h' ⟨rfl, rfl⟩
      refine G_iret (ty := .int) rfl rfl ?_ dX7_entry_39
      exact ⟨Or.inl ⟨c, j, n, hc, e, e2, hj, rfl⟩, rfl⟩
    · skip
      refine G_astoreN 24 rfl (by decide) dX7_entry_22 ?_
      refine G_aloadN 26 rfl rfl dX7_entry_24 ?_
      refine G_ifnonnullN 29 rfl dX7_entry_26 ?_
      refine G_iconst 30 rfl (-1) (by decide) dX7_entry_29 ?_
      refine G_goto 39 (by decide) dX7_entry_30 ?_
      refine G_iret (ty := .int) rfl rfl ?_ dX7_entry_39
      exact ⟨Or.inr ⟨by first | exact Or.inl e | exact Or.inr ⟨c, hc, e, e2⟩, rfl⟩, rfl⟩
  · skip
    refine G_astoreN 7 rfl (by decide) dX7_entry_5 ?_
    refine G_aloadN 9 rfl rfl dX7_entry_7 ?_
    refine G_ifnonnullN 12 rfl dX7_entry_9 ?_
    refine G_null 13 rfl dX7_entry_12 ?_
    refine G_goto 22 (by decide) dX7_entry_13 ?_
    refine G_astoreN 24 rfl (by decide) dX7_entry_22 ?_
    refine G_aloadN 26 rfl rfl dX7_entry_24 ?_
    refine G_ifnonnullN 29 rfl dX7_entry_26 ?_
    refine G_iconst 30 rfl (-1) (by decide) dX7_entry_29 ?_
    refine G_goto 39 (by decide) dX7_entry_30 ?_
    refine G_iret (ty := .int) rfl rfl ?_ dX7_entry_39
    exact ⟨Or.inr ⟨by first | exact Or.inl e | exact Or.inr ⟨c, hc, e, e2⟩, rfl⟩, rfl⟩

set_option maxHeartbeats 4000000 in
set_option maxRecDepth 100000 in
theorem c_X4_part {E : Ev} {m : Nat} {σ : Sg} {τ : Tu} {h : Hp} (hR : RR E m σ τ h) (i k : Int32) {z : Nat} (hz : σ.1 257 0 = nI z) (hzb : z < 2 ^ 30) : Cn E mX4_part (rk 0 0 0) h [.ref (aPL E m), .int i, .int k] (fun v h' => ((∃ a b, a < 200 ∧ a < z ∧ b < 8 ∧ i = nI a ∧ k = nI b ∧ v = some (.int (σ.1 900 (a * 8 + b)))) ∨ (¬ (∃ a b, a < 200 ∧ a < z ∧ b < 8 ∧ i = nI a ∧ k = nI b) ∧ v = some (.int (-1)))) ∧ h' = h) := by
  refine Cn_of (by decide) rfl (by simp [Value.category]) (Nat.le_of_ble_eq_true rfl) ?_
  refine G_iload_n 1 rfl rfl dX4_part_0 ?_
  refine G_if_lt 29 4 rfl (by decide) dX4_part_1 (fun c1 => ?_) (fun c1 => ?_)
  · skip
    refine G_iconst 30 rfl (-1) (by decide) dX4_part_29 ?_
    refine G_iret (ty := .int) rfl rfl ?_ dX4_part_30
    exact ⟨Or.inr ⟨fun ⟨a, b, z1, z2, z3, z4, z5⟩ => by
      first
      | exact absurd c1 (by rw [z4]; exact nI_pos (by omega))
      | exact absurd c9 (by rw [z4]; exact nI_ge z2 (by omega))
      | exact absurd c16 (by rw [z4]; exact nI_ge (b := 200) z1 (by omega))
      | exact absurd c20 (by rw [z5]; exact nI_pos (by omega))
      | exact absurd (show k < 8 by rw [z5]; exact nI_lt (b := 8) z3 (by omega)) c26, rfl⟩, rfl⟩
  · skip
    refine G_iload_n 5 rfl rfl dX4_part_4 ?_
    refine G_aload_n 6 rfl rfl dX4_part_5 ?_
    refine G_gi 9 rfl hR 4 1 0 257 (σ.1 257 0) fl_X4_15 rfl rfl rfl rfl rfl dX4_part_6 ?_
    rw [hz]
    refine G_icmp_ge 29 12 rfl (by decide) dX4_part_9 (fun c9 => ?_) (fun c9 => ?_)
    · skip
      refine G_iconst 30 rfl (-1) (by decide) dX4_part_29 ?_
      refine G_iret (ty := .int) rfl rfl ?_ dX4_part_30
      exact ⟨Or.inr ⟨fun ⟨a, b, z1, z2, z3, z4, z5⟩ => by
        first
        | exact absurd c1 (by rw [z4]; exact nI_pos (by omega))
        | exact absurd c9 (by rw [z4]; exact nI_ge z2 (by omega))
        | exact absurd c16 (by rw [z4]; exact nI_ge (b := 200) z1 (by omega))
        | exact absurd c20 (by rw [z5]; exact nI_pos (by omega))
        | exact absurd (show k < 8 by rw [z5]; exact nI_lt (b := 8) z3 (by omega)) c26, rfl⟩, rfl⟩
    · skip
      refine G_iload_n 13 rfl rfl dX4_part_12 ?_
      refine G_sipush 16 rfl (200) (by decide) dX4_part_13 ?_
      refine G_icmp_ge 29 19 rfl (by decide) dX4_part_16 (fun c16 => ?_) (fun c16 => ?_)
      · skip
        refine G_iconst 30 rfl (-1) (by decide) dX4_part_29 ?_
        refine G_iret (ty := .int) rfl rfl ?_ dX4_part_30
        exact ⟨Or.inr ⟨fun ⟨a, b, z1, z2, z3, z4, z5⟩ => by
          first
          | exact absurd c1 (by rw [z4]; exact nI_pos (by omega))
          | exact absurd c9 (by rw [z4]; exact nI_ge z2 (by omega))
          | exact absurd c16 (by rw [z4]; exact nI_ge (b := 200) z1 (by omega))
          | exact absurd c20 (by rw [z5]; exact nI_pos (by omega))
          | exact absurd (show k < 8 by rw [z5]; exact nI_lt (b := 8) z3 (by omega)) c26, rfl⟩, rfl⟩
      · skip
        refine G_iload_n 20 rfl rfl dX4_part_19 ?_
        refine G_if_lt 29 23 rfl (by decide) dX4_part_20 (fun c20 => ?_) (fun c20 => ?_)
        · skip
          refine G_iconst 30 rfl (-1) (by decide) dX4_part_29 ?_
          refine G_iret (ty := .int) rfl rfl ?_ dX4_part_30
          exact ⟨Or.inr ⟨fun ⟨a, b, z1, z2, z3, z4, z5⟩ => by
            first
            | exact absurd c1 (by rw [z4]; exact nI_pos (by omega))
            | exact absurd c9 (by rw [z4]; exact nI_ge z2 (by omega))
            | exact absurd c16 (by rw [z4]; exact nI_ge (b := 200) z1 (by omega))
            | exact absurd c20 (by rw [z5]; exact nI_pos (by omega))
            | exact absurd (show k < 8 by rw [z5]; exact nI_lt (b := 8) z3 (by omega)) c26, rfl⟩, rfl⟩
        · skip
          refine G_iload_n 24 rfl rfl dX4_part_23 ?_
          refine G_bipush 26 rfl (8) (by decide) dX4_part_24 ?_
          refine G_icmp_lt 31 29 rfl (by decide) dX4_part_26 (fun c26 => ?_) (fun c26 => ?_)
          · skip
            refine G_aload_n 32 rfl rfl dX4_part_31 ?_
            refine G_g0 35 rfl hR fl_X4_9 dX4_part_32 ?_
            refine G_iload_n 36 rfl rfl dX4_part_35 ?_
            refine G_bipush 38 rfl (8) (by decide) dX4_part_36 ?_
            refine G_imul 39 rfl dX4_part_38 ?_
            refine G_iload_n 40 rfl rfl dX4_part_39 ?_
            refine G_iadd 41 rfl dX4_part_40 ?_
            obtain ⟨a, ha, ea⟩ := ix_of (n := 200) (by omega) c1 c16
            obtain ⟨b, hb, eb⟩ := ix_of (n := 8) (by omega) c20 (fun q => absurd c26 (fun z => by rw [Int32.lt_iff_toInt_lt] at z; rw [Int32.le_iff_toInt_le] at q; have : (nI 8).toInt = (8 : Int32).toInt := rfl; omega))
            refine G_ppGet 42 rfl hR (j := a * 8 + b) (by rw [ea, eb]; exact e8 a b) (by omega) dX4_part_41 ?_
            refine G_iret (ty := .int) rfl rfl ?_ dX4_part_42
            exact ⟨Or.inl ⟨a, b, ha, by
              by_cases q : a < z
              · exact q
              · exact absurd (by rw [ea]; exact nI_le (by omega) (by omega)) c9, hb, ea, eb, rfl⟩, rfl⟩
          · skip
            refine G_iconst 30 rfl (-1) (by decide) dX4_part_29 ?_
            refine G_iret (ty := .int) rfl rfl ?_ dX4_part_30
            exact ⟨Or.inr ⟨fun ⟨a, b, z1, z2, z3, z4, z5⟩ => by
              first
              | exact absurd c1 (by rw [z4]; exact nI_pos (by omega))
              | exact absurd c9 (by rw [z4]; exact nI_ge z2 (by omega))
              | exact absurd c16 (by rw [z4]; exact nI_ge (b := 200) z1 (by omega))
              | exact absurd c20 (by rw [z5]; exact nI_pos (by omega))
              | exact absurd (show k < 8 by rw [z5]; exact nI_lt (b := 8) z3 (by omega)) c26, rfl⟩, rfl⟩

set_option maxHeartbeats 4000000 in
set_option maxRecDepth 100000 in
theorem c_X7_pair {E : Ev} {m : Nat} {σ : Sg} {τ : Tu} {h : Hp} (hR : RR E m σ τ h) (i k : Int32) {z : Nat} (hz : σ.1 257 0 = nI z) (hzb : z < 2 ^ 30) : Cn E mX7_pair (rk 1 0 0) h [.ref (aX E), .int i, .int k] (fun v h' => ((∃ a b, a < 200 ∧ a < z ∧ b < 8 ∧ i = nI a ∧ k = nI b ∧ v = some (.int (σ.1 900 (a * 8 + b)))) ∨ (¬ (∃ a b, a < 200 ∧ a < z ∧ b < 8 ∧ i = nI a ∧ k = nI b) ∧ v = some (.int (-1)))) ∧ h' = h) := by
  refine Cn_of (by decide) rfl (by simp [Value.category]) (Nat.le_of_ble_eq_true rfl) ?_
  refine G_aload_n 1 rfl rfl dX7_pair_0 ?_
  refine G_x2 4 rfl hR fl_X7_37 dX7_pair_1 ?_
  refine G_iload_n 5 rfl rfl dX7_pair_4 ?_
  refine G_iload_n 6 rfl rfl dX7_pair_5 ?_
  refine G_callV 9 rfl [.int i, .int k] (c_X4_part hR i k hz hzb) ok_X4_part ov_X4_part ml_X7_132 (hR.ob (ci := 4) (i := 0) (by decide) rfl) ⟨by decide, rfl⟩ rfl ⟨by decide, by decide⟩ rfl rfl (Nat.le_of_ble_eq_true rfl) rfl dX7_pair_6 ?_
  rintro v h' ⟨⟨a, b, z1, z2, z3, z4, z5, rfl⟩ | ⟨zn, rfl⟩, rfl⟩
  · skip
    refine G_iret (ty := .int) rfl rfl ?_ dX7_pair_9
    exact ⟨Or.inl ⟨a, b, z1, z2, z3, z4, z5, rfl⟩, rfl⟩
  · skip
    refine G_iret (ty := .int) rfl rfl ?_ dX7_pair_9
    exact ⟨Or.inr ⟨zn, rfl⟩, rfl⟩

set_option maxHeartbeats 4000000 in
set_option maxRecDepth 100000 in
theorem c_X7_doubles {E : Ev} {m : Nat} {σ : Sg} {τ : Tu} {h : Hp} (hR : RR E m σ τ h)  : Cn E mX7_doubles (rk 0 0 0) h [.ref (aX E)] (fun v h' => v = some (.int (σ.1 456 0)) ∧ h' = h) := by
  refine Cn_of (by decide) rfl (by simp [Value.category]) (Nat.le_of_ble_eq_true rfl) ?_
  refine G_aload_n 1 rfl rfl dX7_doubles_0 ?_
  refine G_gi 4 rfl hR 7 8 0 456 (σ.1 456 0) fl_X7_134 rfl rfl rfl rfl rfl dX7_doubles_1 ?_
  refine G_iret (ty := .int) rfl rfl ?_ dX7_doubles_4
  exact ⟨rfl, rfl⟩
end
section
theorem ctA_succ (f : Nat → Bool) (n a : Nat) (s : Int32) : ctA f (n + 1) a s = ctA f n (a + 1) (if f a then s + 1 else s) := rfl
theorem smA_succ (f : Nat → Int32) (n a : Nat) (s : Int32) : smA f (n + 1) a s = smA f n (a + 1) (s + f a) := rfl
def cnt7 (σ : Sg) (m : Nat) (k : Int32) : Int32 := if k = 0 then nI m else if k = 1 then ctA (fun i => !decide (σ.1 325 i = 0)) m 0 0 else if k = 2 then σ.1 257 0 else if k = 3 then σ.1 451 0 else if k = 4 then σ.1 452 0 else if k = 5 then smA (fun c => nI (sLs σ c).length) 8 0 0 else if k = 6 then σ.1 453 0 else if k = 7 then σ.1 454 0 else if k = 8 then σ.1 455 0 else -1
def hB (σ : Sg) (m i : Nat) : Bool := decide (σ.1 384 i = 2 ∧ ∃ c, c < m ∧ σ.1 386 i = nI c ∧ ¬ (¬ σ.1 325 c < 5 ∧ ¬ 8 < σ.1 325 c))
def stdg (σ : Sg) (p : Nat) : Int32 := if σ.1 325 p = 0 then -1 else if σ.1 325 p = 1 then 4 else if σ.1 325 p = 10 then 1 else if σ.1 325 p = 12 then (if σ.1 384 p = 3 then 2 else σ.1 334 p) else 0
set_option maxHeartbeats 4000000 in
set_option maxRecDepth 100000 in
theorem lp_X7_present {E : Ev} {m : Nat} {σ : Sg} {τ : Tu} {h : Hp} (hR : RR E m σ τ h)  : ∀ (r a : Nat) (s : Int32), a + r = m → ctA (fun i => !decide (σ.1 325 i = 0)) r a s = ctA (fun i => !decide (σ.1 325 i = 0)) m 0 0 → G E mX7_present (rk 0 0 0) (fun v h' => v = some (.int (ctA (fun i => !decide (σ.1 325 i = 0)) m 0 0)) ∧ h' = h) 4 [some (.ref (aX E)), some (.int s), some (.int (nI a))] [] h 0 0 := by
  intro r
  induction r with
  | zero =>
    intro a s ha hv
    have hm := hR.1.1
    refine G_iload_n 5 rfl rfl dX7_present_4 ?_
    refine G_aload_n 6 rfl rfl dX7_present_5 ?_
    refine G_x0 9 rfl hR fl_X7_20 dX7_present_6 ?_
    refine G_lenPA 10 rfl hR dX7_present_9 ?_
    refine G_icmpT_ge 34 (nI_le (by omega) (by omega)) (by decide) dX7_present_10 ?_
    refine G_iload_n 35 rfl rfl dX7_present_34 ?_
    refine G_iret (ty := .int) rfl rfl ?_ dX7_present_35
    exact ⟨by rw [← hv]; rfl, rfl⟩
  | succ r ih =>
    intro a s ha hv
    have hm := hR.1.1
    refine G_iload_n 5 rfl rfl dX7_present_4 ?_
    refine G_aload_n 6 rfl rfl dX7_present_5 ?_
    refine G_x0 9 rfl hR fl_X7_20 dX7_present_6 ?_
    refine G_lenPA 10 rfl hR dX7_present_9 ?_
    refine G_icmpF_ge 13 rfl (nI_ge (by omega) (by omega)) ⟨34, by decide⟩ dX7_present_10 ?_
    refine G_aload_n 14 rfl rfl dX7_present_13 ?_
    refine G_x0 17 rfl hR fl_X7_20 dX7_present_14 ?_
    refine G_iload_n 18 rfl rfl dX7_present_17 ?_
    refine G_procs 19 rfl hR (p := a) rfl (show a < m by omega) dX7_present_18 ?_
    refine G_gi 22 rfl hR 5 5 a 325 (σ.1 325 a) fl_X7_48 (show a < m by omega) rfl rfl rfl rfl dX7_present_19 ?_
    refine G_if_eq 28 25 rfl (by decide) dX7_present_22 (fun c22 => ?_) (fun c22 => ?_)
    · skip
      refine G_iinc 31 rfl (nI (a + 1)) rfl (inc1 a) (by decide) dX7_present_28 ?_
      refine G_goto 4 (by decide) dX7_present_31 ?_
      exact ih (a + 1) _ (by omega) (by rw [← hv, ctA_succ]; simp [c22])
    · skip
      refine G_iinc 28 rfl (s + 1) rfl (rfl) (by decide) dX7_present_25 ?_
      refine G_iinc 31 rfl (nI (a + 1)) rfl (inc1 a) (by decide) dX7_present_28 ?_
      refine G_goto 4 (by decide) dX7_present_31 ?_
      exact ih (a + 1) _ (by omega) (by rw [← hv, ctA_succ]; simp [c22])

set_option maxHeartbeats 4000000 in
set_option maxRecDepth 100000 in
theorem c_X7_present {E : Ev} {m : Nat} {σ : Sg} {τ : Tu} {h : Hp} (hR : RR E m σ τ h)  : Cn E mX7_present (rk 0 0 0) h [.ref (aX E)] (fun v h' => v = some (.int (ctA (fun i => !decide (σ.1 325 i = 0)) m 0 0)) ∧ h' = h) := by
  refine Cn_of (by decide) rfl (by simp [Value.category]) (Nat.le_of_ble_eq_true rfl) ?_
  refine G_iconst 1 rfl (0) (by decide) dX7_present_0 ?_
  refine G_istore_n 2 rfl (by decide) dX7_present_1 ?_
  refine G_iconst 3 rfl (0) (by decide) dX7_present_2 ?_
  refine G_istore_n 4 rfl (by decide) dX7_present_3 ?_
  exact lp_X7_present hR m 0 0 (by omega) rfl

set_option maxHeartbeats 4000000 in
set_option maxRecDepth 100000 in
theorem lp_X7_listed {E : Ev} {m : Nat} {σ : Sg} {τ : Tu} {h : Hp} (hR : RR E m σ τ h)  : ∀ (r a : Nat) (s : Int32), a + r = 8 → smA (fun c => nI (sLs σ c).length) r a s = smA (fun c => nI (sLs σ c).length) 8 0 0 → G E mX7_listed (rk 0 0 0) (fun v h' => v = some (.int (smA (fun c => nI (sLs σ c).length) 8 0 0)) ∧ h' = h) 4 [some (.ref (aX E)), some (.int s), some (.int (nI a))] [] h 0 0 := by
  intro r
  induction r with
  | zero =>
    intro a s ha hv
    have hm := hR.1.1
    refine G_iload_n 5 rfl rfl dX7_listed_4 ?_
    refine G_aload_n 6 rfl rfl dX7_listed_5 ?_
    refine G_x1 9 rfl hR fl_X7_29 dX7_listed_6 ?_
    refine G_lenLL 10 rfl hR dX7_listed_9 ?_
    refine G_icmpT_ge 31 (nI_le (a := 8) (by omega) (by omega)) (by decide) dX7_listed_10 ?_
    refine G_iload_n 32 rfl rfl dX7_listed_31 ?_
    refine G_iret (ty := .int) rfl rfl ?_ dX7_listed_32
    exact ⟨by rw [← hv]; rfl, rfl⟩
  | succ r ih =>
    intro a s ha hv
    have hm := hR.1.1
    refine G_iload_n 5 rfl rfl dX7_listed_4 ?_
    refine G_aload_n 6 rfl rfl dX7_listed_5 ?_
    refine G_x1 9 rfl hR fl_X7_29 dX7_listed_6 ?_
    refine G_lenLL 10 rfl hR dX7_listed_9 ?_
    refine G_icmpF_ge 13 rfl (nI_ge (b := 8) (by omega) (by omega)) ⟨31, by decide⟩ dX7_listed_10 ?_
    refine G_iload_n 14 rfl rfl dX7_listed_13 ?_
    refine G_aload_n 15 rfl rfl dX7_listed_14 ?_
    refine G_x1 18 rfl hR fl_X7_29 dX7_listed_15 ?_
    refine G_iload_n 19 rfl rfl dX7_listed_18 ?_
    refine G_lists 20 rfl hR (c := a) rfl (show a < 8 by omega) dX7_listed_19 ?_
    refine G_l1 23 rfl hR fl_X7_162 (show a < 8 by omega) dX7_listed_20 ?_
    refine G_iadd 24 rfl dX7_listed_23 ?_
    refine G_istore_n 25 rfl (by decide) dX7_listed_24 ?_
    refine G_iinc 28 rfl (nI (a + 1)) rfl (inc1 a) (by decide) dX7_listed_25 ?_
    refine G_goto 4 (by decide) dX7_listed_28 ?_
    exact ih (a + 1) _ (by omega) (by rw [← hv, smA_succ])

set_option maxHeartbeats 4000000 in
set_option maxRecDepth 100000 in
theorem c_X7_listed {E : Ev} {m : Nat} {σ : Sg} {τ : Tu} {h : Hp} (hR : RR E m σ τ h)  : Cn E mX7_listed (rk 0 0 0) h [.ref (aX E)] (fun v h' => v = some (.int (smA (fun c => nI (sLs σ c).length) 8 0 0)) ∧ h' = h) := by
  refine Cn_of (by decide) rfl (by simp [Value.category]) (Nat.le_of_ble_eq_true rfl) ?_
  refine G_iconst 1 rfl (0) (by decide) dX7_listed_0 ?_
  refine G_istore_n 2 rfl (by decide) dX7_listed_1 ?_
  refine G_iconst 3 rfl (0) (by decide) dX7_listed_2 ?_
  refine G_istore_n 4 rfl (by decide) dX7_listed_3 ?_
  exact lp_X7_listed hR 8 0 0 (by omega) rfl

set_option maxHeartbeats 4000000 in
set_option maxRecDepth 100000 in
theorem c_X7_count {E : Ev} {m : Nat} {σ : Sg} {τ : Tu} {h : Hp} (hR : RR E m σ τ h) (k : Int32) : Cn E mX7_count (rk 1 0 0) h [.ref (aX E), .int k] (fun v h' => v = some (.int (cnt7 σ m k)) ∧ h' = h) := by
  refine Cn_of (by decide) rfl (by simp [Value.category]) (Nat.le_of_ble_eq_true rfl) ?_
  refine G_iload_n 1 rfl rfl dX7_count_0 ?_
  by_cases k1_0 : k = 0
  · refine G_tableIn 52 dX7_count_1 (by rw [k1_0]; decide) (by rw [k1_0]; decide) (off := 51) (by rw [k1_0]; rfl) (by decide) ?_
    refine G_aload_n 53 rfl rfl dX7_count_52 ?_
    refine G_x0 56 rfl hR fl_X7_20 dX7_count_53 ?_
    refine G_lenPA 57 rfl hR dX7_count_56 ?_
    refine G_iret (ty := .int) rfl rfl ?_ dX7_count_57
    exact ⟨by unfold cnt7; simp [*], rfl⟩
  · skip
    by_cases k1_1 : k = 1
    · refine G_tableIn 58 dX7_count_1 (by rw [k1_1]; decide) (by rw [k1_1]; decide) (off := 57) (by rw [k1_1]; rfl) (by decide) ?_
      refine G_aload_n 59 rfl rfl dX7_count_58 ?_
      refine G_callV 62 rfl [] (c_X7_present hR) ok_X7_present ov_X7_present ml_X7_144 (hR.ob (ci := 7) (i := 0) (by decide) rfl) ⟨by decide, rfl⟩ rfl ⟨by decide, by decide⟩ rfl rfl (Nat.le_of_ble_eq_true rfl) rfl dX7_count_59 ?_
      rintro v h' ⟨rfl, rfl⟩
      refine G_iret (ty := .int) rfl rfl ?_ dX7_count_62
      exact ⟨by unfold cnt7; simp [*], rfl⟩
    · skip
      by_cases k1_2 : k = 2
      · refine G_tableIn 63 dX7_count_1 (by rw [k1_2]; decide) (by rw [k1_2]; decide) (off := 62) (by rw [k1_2]; rfl) (by decide) ?_
        refine G_aload_n 64 rfl rfl dX7_count_63 ?_
        refine G_x2 67 rfl hR fl_X7_37 dX7_count_64 ?_
        refine G_gi 70 rfl hR 4 1 0 257 (σ.1 257 0) fl_X7_110 rfl rfl rfl rfl rfl dX7_count_67 ?_
        refine G_iret (ty := .int) rfl rfl ?_ dX7_count_70
        exact ⟨by unfold cnt7; simp [*], rfl⟩
      · skip
        by_cases k1_3 : k = 3
        · refine G_tableIn 71 dX7_count_1 (by rw [k1_3]; decide) (by rw [k1_3]; decide) (off := 70) (by rw [k1_3]; rfl) (by decide) ?_
          refine G_aload_n 72 rfl rfl dX7_count_71 ?_
          refine G_gi 75 rfl hR 7 3 0 451 (σ.1 451 0) fl_X7_72 rfl rfl rfl rfl rfl dX7_count_72 ?_
          refine G_iret (ty := .int) rfl rfl ?_ dX7_count_75
          exact ⟨by unfold cnt7; simp [*], rfl⟩
        · skip
          by_cases k1_4 : k = 4
          · refine G_tableIn 76 dX7_count_1 (by rw [k1_4]; decide) (by rw [k1_4]; decide) (off := 75) (by rw [k1_4]; rfl) (by decide) ?_
            refine G_aload_n 77 rfl rfl dX7_count_76 ?_
            refine G_gi 80 rfl hR 7 4 0 452 (σ.1 452 0) fl_X7_147 rfl rfl rfl rfl rfl dX7_count_77 ?_
            refine G_iret (ty := .int) rfl rfl ?_ dX7_count_80
            exact ⟨by unfold cnt7; simp [*], rfl⟩
          · skip
            by_cases k1_5 : k = 5
            · refine G_tableIn 81 dX7_count_1 (by rw [k1_5]; decide) (by rw [k1_5]; decide) (off := 80) (by rw [k1_5]; rfl) (by decide) ?_
              refine G_aload_n 82 rfl rfl dX7_count_81 ?_
              refine G_callV 85 rfl [] (c_X7_listed hR) ok_X7_listed ov_X7_listed ml_X7_150 (hR.ob (ci := 7) (i := 0) (by decide) rfl) ⟨by decide, rfl⟩ rfl ⟨by decide, by decide⟩ rfl rfl (Nat.le_of_ble_eq_true rfl) rfl dX7_count_82 ?_
              rintro v h' ⟨rfl, rfl⟩
              refine G_iret (ty := .int) rfl rfl ?_ dX7_count_85
              exact ⟨by unfold cnt7; simp [*], rfl⟩
            · skip
              by_cases k1_6 : k = 6
              · refine G_tableIn 86 dX7_count_1 (by rw [k1_6]; decide) (by rw [k1_6]; decide) (off := 85) (by rw [k1_6]; rfl) (by decide) ?_
                refine G_aload_n 87 rfl rfl dX7_count_86 ?_
                refine G_gi 90 rfl hR 7 5 0 453 (σ.1 453 0) fl_X7_153 rfl rfl rfl rfl rfl dX7_count_87 ?_
                refine G_iret (ty := .int) rfl rfl ?_ dX7_count_90
                exact ⟨by unfold cnt7; simp [*], rfl⟩
              · skip
                by_cases k1_7 : k = 7
                · refine G_tableIn 91 dX7_count_1 (by rw [k1_7]; decide) (by rw [k1_7]; decide) (off := 90) (by rw [k1_7]; rfl) (by decide) ?_
                  refine G_aload_n 92 rfl rfl dX7_count_91 ?_
                  refine G_gi 95 rfl hR 7 6 0 454 (σ.1 454 0) fl_X7_156 rfl rfl rfl rfl rfl dX7_count_92 ?_
                  refine G_iret (ty := .int) rfl rfl ?_ dX7_count_95
                  exact ⟨by unfold cnt7; simp [*], rfl⟩
                · skip
                  by_cases k1_8 : k = 8
                  · refine G_tableIn 96 dX7_count_1 (by rw [k1_8]; decide) (by rw [k1_8]; decide) (off := 95) (by rw [k1_8]; rfl) (by decide) ?_
                    refine G_aload_n 97 rfl rfl dX7_count_96 ?_
                    refine G_gi 100 rfl hR 7 7 0 455 (σ.1 455 0) fl_X7_159 rfl rfl rfl rfl rfl dX7_count_97 ?_
                    refine G_iret (ty := .int) rfl rfl ?_ dX7_count_100
                    exact ⟨by unfold cnt7; simp [*], rfl⟩
                  · skip
                    refine G_tableOut 101 dX7_count_1 (tb_out (n := 8) (by decide) (fun j hj => by rcases j with _ | _ | _ | _ | _ | _ | _ | _ | _ | j; exact k1_0; exact k1_1; exact k1_2; exact k1_3; exact k1_4; exact k1_5; exact k1_6; exact k1_7; exact k1_8; omega)) (by decide) ?_
                    refine G_iconst 102 rfl (-1) (by decide) dX7_count_101 ?_
                    refine G_iret (ty := .int) rfl rfl ?_ dX7_count_102
                    exact ⟨by unfold cnt7; simp [*], rfl⟩

set_option maxHeartbeats 4000000 in
set_option maxRecDepth 100000 in
theorem lp_X7_held {E : Ev} {m : Nat} {σ : Sg} {τ : Tu} {h : Hp} (hR : RR E m σ τ h)  : ∀ (r a : Nat) (s : Int32), a + r = m → ctA (hB σ m) r a s = ctA (hB σ m) m 0 0 → G E mX7_held (rk 1 0 0) (fun v h' => v = some (.int (ctA (hB σ m) m 0 0)) ∧ h' = h) 4 [some (.ref (aX E)), some (.int s), some (.int (nI a)), none, none] [] h 0 0 := by
  intro r
  induction r with
  | zero =>
    intro a s ha hv
    have hm := hR.1.1
    refine G_iload_n 5 rfl rfl dX7_held_4 ?_
    refine G_aload_n 6 rfl rfl dX7_held_5 ?_
    refine G_x0 9 rfl hR fl_X7_20 dX7_held_6 ?_
    refine G_lenPA 10 rfl hR dX7_held_9 ?_
    refine G_icmpT_ge 67 (nI_le (by omega) (by omega)) (by decide) dX7_held_10 ?_
    refine G_iload_n 68 rfl rfl dX7_held_67 ?_
    refine G_iret (ty := .int) rfl rfl ?_ dX7_held_68
    exact ⟨by rw [← hv]; rfl, rfl⟩
  | succ r ih =>
    intro a s ha hv
    have hm := hR.1.1
    refine G_iload_n 5 rfl rfl dX7_held_4 ?_
    refine G_aload_n 6 rfl rfl dX7_held_5 ?_
    refine G_x0 9 rfl hR fl_X7_20 dX7_held_6 ?_
    refine G_lenPA 10 rfl hR dX7_held_9 ?_
    refine G_icmpF_ge 13 rfl (nI_ge (by omega) (by omega)) ⟨67, by decide⟩ dX7_held_10 ?_
    refine G_aload_n 14 rfl rfl dX7_held_13 ?_
    refine G_x0 17 rfl hR fl_X7_20 dX7_held_14 ?_
    refine G_iload_n 18 rfl rfl dX7_held_17 ?_
    refine G_procs 19 rfl hR (p := a) rfl (show a < m by omega) dX7_held_18 ?_
    refine G_p1 22 rfl hR fl_X7_63 (show a < m by omega) dX7_held_19 ?_
    refine G_astore_n 23 rfl (by decide) dX7_held_22 ?_
    refine G_aload_n 24 rfl rfl dX7_held_23 ?_
    refine G_gi 27 rfl hR 6 0 a 384 (σ.1 384 a) fl_X7_94 (show a < m by omega) rfl rfl rfl rfl dX7_held_24 ?_
    refine G_iconst 28 rfl (2) (by decide) dX7_held_27 ?_
    refine G_icmp_ne 42 31 rfl (by decide) dX7_held_28 (fun c28 => ?_) (fun c28 => ?_)
    · skip
      refine G_null 43 rfl dX7_held_42 ?_
      refine G_astoreN 45 rfl (by decide) dX7_held_43 ?_
      refine G_aloadN 47 rfl rfl dX7_held_45 ?_
      refine G_ifnullN 61 (by decide) dX7_held_47 ?_
      refine G_iinc 64 rfl (nI (a + 1)) rfl (inc1 a) (by decide) dX7_held_61 ?_
      refine G_goto 4 (by decide) dX7_held_64 ?_
      refine G_lw [some (.ref (aX E)), some (.int (s)), some (.int (nI (a + 1))), none, none] (by intro x y hx; rcases x with _ | _ | _ | _ | _ | x <;> first | exact hx | cases hx) ?_
      exact ih (a + 1) _ (by omega) (by
        rw [← hv, ctA_succ, if_neg (show ¬ hB σ m a = true from fun z => ?_)]
        obtain ⟨z1, c, z2, z3, z4⟩ := of_decide_eq_true z
        first
        | exact c28 z1
        | exact absurd e (by rw [z3]; exact fun y => y.elim (nI_pos (by omega)) (nI_ge z2 (by omega)))
        | exact z4 (by rw [← (nI_eq (by omega) (by omega)).mp (e.symm.trans z3)]; exact hcm))
    · skip
      refine G_aload_n 32 rfl rfl dX7_held_31 ?_
      refine G_aload_n 33 rfl rfl dX7_held_32 ?_
      refine G_gi 36 rfl hR 6 2 a 386 (σ.1 386 a) fl_X7_141 (show a < m by omega) rfl rfl rfl rfl dX7_held_33 ?_
      refine G_callV 39 rfl [.int (σ.1 386 a)] (c_X7_procAt hR (σ.1 386 a)) ok_X7_procAt ov_X7_procAt ml_X7_78 (hR.ob (ci := 7) (i := 0) (by decide) rfl) ⟨by decide, rfl⟩ rfl ⟨by decide, by decide⟩ rfl rfl (Nat.le_of_ble_eq_true rfl) rfl dX7_held_36 ?_
      rintro v h' ⟨⟨q, hq, e, rfl⟩ | ⟨e, rfl⟩, rfl⟩
      · skip
        refine G_goto 43 (by decide) dX7_held_39 ?_
        refine G_astore 45 rfl (by decide) dX7_held_43 ?_
        refine G_aload 47 rfl rfl dX7_held_45 ?_
        refine G_ifnull 50 rfl dX7_held_47 ?_
        refine G_aload 52 rfl rfl dX7_held_50 ?_
        refine G_callV 55 rfl [] (c_X5_isClaiming hR hq) ok_X5_isClaiming ov_X5_isClaiming ml_X7_101 (hR.ob (ci := 5) (i := q) (by decide) hq) ⟨by decide, rfl⟩ rfl ⟨by decide, by decide⟩ rfl rfl (Nat.le_of_ble_eq_true rfl) rfl dX7_held_52 ?_
        rintro v h' ⟨⟨hcm, rfl⟩ | ⟨hcm, rfl⟩, rfl⟩
        · skip
          refine G_ifT_ne 61 (by decide) (by decide) dX7_held_55 ?_
          refine G_iinc 64 rfl (nI (a + 1)) rfl (inc1 a) (by decide) dX7_held_61 ?_
          refine G_goto 4 (by decide) dX7_held_64 ?_
          refine G_lw [some (.ref (aX E)), some (.int (s)), some (.int (nI (a + 1))), none, none] (by intro x y hx; rcases x with _ | _ | _ | _ | _ | x <;> first | exact hx | cases hx) ?_
          exact ih (a + 1) _ (by omega) (by
            rw [← hv, ctA_succ, if_neg (show ¬ hB σ m a = true from fun z => ?_)]
            obtain ⟨z1, c, z2, z3, z4⟩ := of_decide_eq_true z
            first
            | exact c28 z1
            | exact absurd e (by rw [z3]; exact fun y => y.elim (nI_pos (by omega)) (nI_ge z2 (by omega)))
            | exact z4 (by rw [← (nI_eq (by omega) (by omega)).mp (e.symm.trans z3)]; exact hcm))
        · skip
          refine G_ifF_ne 58 rfl (by decide) ⟨61, by decide⟩ dX7_held_55 ?_
          refine G_iinc 61 rfl (s + 1) rfl (rfl) (by decide) dX7_held_58 ?_
          refine G_iinc 64 rfl (nI (a + 1)) rfl (inc1 a) (by decide) dX7_held_61 ?_
          refine G_goto 4 (by decide) dX7_held_64 ?_
          refine G_lw [some (.ref (aX E)), some (.int (s + 1)), some (.int (nI (a + 1))), none, none] (by intro x y hx; rcases x with _ | _ | _ | _ | _ | x <;> first | exact hx | cases hx) ?_
          exact ih (a + 1) _ (by omega) (by rw [← hv, ctA_succ, if_pos (show hB σ m a = true from decide_eq_true ⟨c28, q, hq, e, hcm⟩)])
      · skip
        refine G_goto 43 (by decide) dX7_held_39 ?_
        refine G_astoreN 45 rfl (by decide) dX7_held_43 ?_
        refine G_aloadN 47 rfl rfl dX7_held_45 ?_
        refine G_ifnullN 61 (by decide) dX7_held_47 ?_
        refine G_iinc 64 rfl (nI (a + 1)) rfl (inc1 a) (by decide) dX7_held_61 ?_
        refine G_goto 4 (by decide) dX7_held_64 ?_
        refine G_lw [some (.ref (aX E)), some (.int (s)), some (.int (nI (a + 1))), none, none] (by intro x y hx; rcases x with _ | _ | _ | _ | _ | x <;> first | exact hx | cases hx) ?_
        exact ih (a + 1) _ (by omega) (by
          rw [← hv, ctA_succ, if_neg (show ¬ hB σ m a = true from fun z => ?_)]
          obtain ⟨z1, c, z2, z3, z4⟩ := of_decide_eq_true z
          first
          | exact c28 z1
          | exact absurd e (by rw [z3]; exact fun y => y.elim (nI_pos (by omega)) (nI_ge z2 (by omega)))
          | exact z4 (by rw [← (nI_eq (by omega) (by omega)).mp (e.symm.trans z3)]; exact hcm))

set_option maxHeartbeats 4000000 in
set_option maxRecDepth 100000 in
theorem c_X7_held {E : Ev} {m : Nat} {σ : Sg} {τ : Tu} {h : Hp} (hR : RR E m σ τ h)  : Cn E mX7_held (rk 1 0 0) h [.ref (aX E)] (fun v h' => v = some (.int (ctA (hB σ m) m 0 0)) ∧ h' = h) := by
  refine Cn_of (by decide) rfl (by simp [Value.category]) (Nat.le_of_ble_eq_true rfl) ?_
  refine G_iconst 1 rfl (0) (by decide) dX7_held_0 ?_
  refine G_istore_n 2 rfl (by decide) dX7_held_1 ?_
  refine G_iconst 3 rfl (0) (by decide) dX7_held_2 ?_
  refine G_istore_n 4 rfl (by decide) dX7_held_3 ?_
  exact lp_X7_held hR m 0 0 (by omega) rfl

set_option maxHeartbeats 4000000 in
set_option maxRecDepth 100000 in
theorem c_X7_step {E : Ev} {m : Nat} {σ : Sg} {τ : Tu} {h : Hp} (hR : RR E m σ τ h) (i : Int32) (hAO : ∀ p, p < m → AO m σ p) : Cn E mX7_step (rk 5 1 6) h [.ref (aX E), .int i] (fun v h' => (∃ p, p < m ∧ i = nI p ∧ (((¬ σ.1 325 p < 2 ∧ ¬ 11 < σ.1 325 p) ∧ v = some (.int (stdg (acc σ p) p)) ∧ RR E m (acc σ p) τ h') ∨ (¬ (¬ σ.1 325 p < 2 ∧ ¬ 11 < σ.1 325 p) ∧ v = some (.int (stdg σ p)) ∧ RR E m σ τ h'))) ∨ ((i < 0 ∨ nI m ≤ i) ∧ v = some (.int (-1)) ∧ RR E m σ τ h')) := by
  refine Cn_of (by decide) rfl (by simp [Value.category]) (Nat.le_of_ble_eq_true rfl) ?_
  refine G_aload_n 1 rfl rfl dX7_step_0 ?_
  refine G_iload_n 2 rfl rfl dX7_step_1 ?_
  refine G_callV 5 rfl [.int i] (c_X7_procAt hR i) ok_X7_procAt ov_X7_procAt ml_X7_78 (hR.ob (ci := 7) (i := 0) (by decide) rfl) ⟨by decide, rfl⟩ rfl ⟨by decide, by decide⟩ rfl rfl (Nat.le_of_ble_eq_true rfl) rfl dX7_step_2 ?_
  rintro v h' ⟨⟨p, hp, e, rfl⟩ | ⟨e, rfl⟩, rfl⟩
  · skip
    refine G_astore_n 6 rfl (by decide) dX7_step_5 ?_
    refine G_aload_n 7 rfl rfl dX7_step_6 ?_
    refine G_ifnonnull 12 (by decide) dX7_step_7 ?_
    refine G_aload_n 13 rfl rfl dX7_step_12 ?_
    refine G_callV 16 rfl [] (c_X5_isOffering hR hp) ok_X5_isOffering ov_X5_isOffering ml_X7_82 (hR.ob (ci := 5) (i := p) (by decide) hp) ⟨by decide, rfl⟩ rfl ⟨by decide, by decide⟩ rfl rfl (Nat.le_of_ble_eq_true rfl) rfl dX7_step_13 ?_
    rintro v h' ⟨⟨hof, rfl⟩ | ⟨hof, rfl⟩, rfl⟩
    · skip
      refine G_ifF_eq 19 rfl (by decide) ⟨24, by decide⟩ dX7_step_16 ?_
      refine G_aload_n 20 rfl rfl dX7_step_19 ?_
      refine G_aload_n 21 rfl rfl dX7_step_20 ?_
      refine G_callV 24 rfl [.ref (aP E p)] (c_X7_access hR hp hof.1 hof.2 (hAO p hp)) ok_X7_access ov_X7_access ml_X7_86 (hR.ob (ci := 7) (i := 0) (by decide) rfl) ⟨by decide, rfl⟩ rfl ⟨by decide, by decide⟩ (ac' := 0) (as' := 0) rfl rfl (Nat.le_of_ble_eq_true rfl) rfl dX7_step_21 ?_
      rintro v h ⟨rfl, hR⟩
      refine G_aload_n 25 rfl rfl dX7_step_24 ?_
      refine G_callV 28 rfl [] (c_X5_standing hR hp) ok_X5_standing ov_X5_standing ml_X7_90 (hR.ob (ci := 5) (i := p) (by decide) hp) ⟨by decide, rfl⟩ rfl ⟨by decide, by decide⟩ rfl rfl (Nat.le_of_ble_eq_true rfl) rfl dX7_step_25 ?_
      rintro v h' ⟨rfl, rfl⟩
      refine G_iret (ty := .int) rfl rfl ?_ dX7_step_28
      exact Or.inl ⟨p, hp, e, Or.inl ⟨hof, rfl, hR⟩⟩
    · skip
      refine G_ifT_eq 24 (by decide) (by decide) dX7_step_16 ?_
      refine G_aload_n 25 rfl rfl dX7_step_24 ?_
      refine G_callV 28 rfl [] (c_X5_standing hR hp) ok_X5_standing ov_X5_standing ml_X7_90 (hR.ob (ci := 5) (i := p) (by decide) hp) ⟨by decide, rfl⟩ rfl ⟨by decide, by decide⟩ rfl rfl (Nat.le_of_ble_eq_true rfl) rfl dX7_step_25 ?_
      rintro v h' ⟨rfl, rfl⟩
      refine G_iret (ty := .int) rfl rfl ?_ dX7_step_28
      exact Or.inl ⟨p, hp, e, Or.inr ⟨hof, rfl, hR⟩⟩
  · skip
    refine G_astore_nN 6 rfl (by decide) dX7_step_5 ?_
    refine G_aload_nN 7 rfl rfl dX7_step_6 ?_
    refine G_ifnonnullN 10 rfl dX7_step_7 ?_
    refine G_iconst 11 rfl (-1) (by decide) dX7_step_10 ?_
    refine G_iret (ty := .int) rfl rfl ?_ dX7_step_11
    exact Or.inr ⟨e, rfl, hR⟩
end
