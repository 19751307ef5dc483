section
-- ===== PART A: goes FIRST, ahead of the names: the tables' words, and 'selects' of the private methods out of them =====
/-- a private method of a class that the tables say can be made, by its rows of tables_1 -/
def lw_okq (q : MethodName × Nat) : Prop := (q.1.cls ≠ "java/lang/invoke/MethodHandle" ∧ q.1.cls ≠ "java/lang/invoke/VarHandle") ∧ Cond.instantiable q.1.cls q.2 ∈ tables_1 ∧ Cond.privateMethod q.1 ∈ tables_1 ∧ Cond.instanceMethod q.1 ∈ tables_1
theorem lw_p0 : lw_okq (⟨"DueWheels", "refusalOfTicks", "(I)I"⟩, 12) := ⟨⟨by decide +kernel, by decide +kernel⟩, List.mem_of_getElem? (i := 18) (by decide +kernel), List.mem_of_getElem? (i := 390) (by decide +kernel), List.mem_of_getElem? (i := 391) (by decide +kernel)⟩
theorem lw_p1 : lw_okq (⟨"DueWheels$Works", "bringFarOnes", "()V"⟩, 7) := ⟨⟨by decide +kernel, by decide +kernel⟩, List.mem_of_getElem? (i := 26) (by decide +kernel), List.mem_of_getElem? (i := 402) (by decide +kernel), List.mem_of_getElem? (i := 403) (by decide +kernel)⟩
theorem lw_p2 : lw_okq (⟨"DueWheels$Works", "moveFrom", "(II)V"⟩, 7) := ⟨⟨by decide +kernel, by decide +kernel⟩, List.mem_of_getElem? (i := 26) (by decide +kernel), List.mem_of_getElem? (i := 410) (by decide +kernel), List.mem_of_getElem? (i := 411) (by decide +kernel)⟩
theorem lw_p3 : lw_okq (⟨"DueWheels$Works", "ringLine", "()V"⟩, 7) := ⟨⟨by decide +kernel, by decide +kernel⟩, List.mem_of_getElem? (i := 26) (by decide +kernel), List.mem_of_getElem? (i := 426) (by decide +kernel), List.mem_of_getElem? (i := 427) (by decide +kernel)⟩
theorem lw_p4 : lw_okq (⟨"DueWheels$Works", "ring", "(LDueWheels$Timer;)V"⟩, 7) := ⟨⟨by decide +kernel, by decide +kernel⟩, List.mem_of_getElem? (i := 26) (by decide +kernel), List.mem_of_getElem? (i := 434) (by decide +kernel), List.mem_of_getElem? (i := 435) (by decide +kernel)⟩
theorem lw_p5 : lw_okq (⟨"DueWheels$Works", "catchUp", "(LDueWheels$Timer;)V"⟩, 7) := ⟨⟨by decide +kernel, by decide +kernel⟩, List.mem_of_getElem? (i := 26) (by decide +kernel), List.mem_of_getElem? (i := 438) (by decide +kernel), List.mem_of_getElem? (i := 439) (by decide +kernel)⟩
theorem lw_p6 : lw_okq (⟨"DueWheels", "keepWhatRang", "()I"⟩, 12) := ⟨⟨by decide +kernel, by decide +kernel⟩, List.mem_of_getElem? (i := 18) (by decide +kernel), List.mem_of_getElem? (i := 445) (by decide +kernel), List.mem_of_getElem? (i := 446) (by decide +kernel)⟩
theorem lw_p7 : lw_okq (⟨"DueWheels", "tellLatest", "(IZ)V"⟩, 12) := ⟨⟨by decide +kernel, by decide +kernel⟩, List.mem_of_getElem? (i := 18) (by decide +kernel), List.mem_of_getElem? (i := 455) (by decide +kernel), List.mem_of_getElem? (i := 456) (by decide +kernel)⟩
theorem lw_p8 : lw_okq (⟨"DueWheels", "refusalOfLeap", "(I)I"⟩, 12) := ⟨⟨by decide +kernel, by decide +kernel⟩, List.mem_of_getElem? (i := 18) (by decide +kernel), List.mem_of_getElem? (i := 480) (by decide +kernel), List.mem_of_getElem? (i := 481) (by decide +kernel)⟩
theorem lw_p9 : lw_okq (⟨"DueWheels", "putApart", "(LDueWheels$Line;I)I"⟩, 12) := ⟨⟨by decide +kernel, by decide +kernel⟩, List.mem_of_getElem? (i := 18) (by decide +kernel), List.mem_of_getElem? (i := 555) (by decide +kernel), List.mem_of_getElem? (i := 556) (by decide +kernel)⟩
theorem lw_p10 : lw_okq (⟨"DueWheels$Acts", "readsAct", "(LDueWheels$Text;)Z"⟩, 8) := ⟨⟨by decide +kernel, by decide +kernel⟩, List.mem_of_getElem? (i := 258) (by decide +kernel), List.mem_of_getElem? (i := 571) (by decide +kernel), List.mem_of_getElem? (i := 572) (by decide +kernel)⟩
theorem lw_p11 : lw_okq (⟨"DueWheels$Acts", "fails", "(I)Z"⟩, 8) := ⟨⟨by decide +kernel, by decide +kernel⟩, List.mem_of_getElem? (i := 258) (by decide +kernel), List.mem_of_getElem? (i := 579) (by decide +kernel), List.mem_of_getElem? (i := 580) (by decide +kernel)⟩
theorem lw_p12 : lw_okq (⟨"DueWheels$Acts", "readsSet", "(LDueWheels$Text;)Z"⟩, 8) := ⟨⟨by decide +kernel, by decide +kernel⟩, List.mem_of_getElem? (i := 258) (by decide +kernel), List.mem_of_getElem? (i := 583) (by decide +kernel), List.mem_of_getElem? (i := 584) (by decide +kernel)⟩
theorem lw_p13 : lw_okq (⟨"DueWheels$Acts", "readsNumber", "(LDueWheels$Text;III)Z"⟩, 8) := ⟨⟨by decide +kernel, by decide +kernel⟩, List.mem_of_getElem? (i := 258) (by decide +kernel), List.mem_of_getElem? (i := 587) (by decide +kernel), List.mem_of_getElem? (i := 588) (by decide +kernel)⟩
theorem lw_p14 : lw_okq (⟨"DueWheels$Acts", "keepsNumber", "()Z"⟩, 8) := ⟨⟨by decide +kernel, by decide +kernel⟩, List.mem_of_getElem? (i := 258) (by decide +kernel), List.mem_of_getElem? (i := 595) (by decide +kernel), List.mem_of_getElem? (i := 596) (by decide +kernel)⟩
theorem lw_p15 : lw_okq (⟨"DueWheels$Acts", "readsSign", "(LDueWheels$Text;I)Z"⟩, 8) := ⟨⟨by decide +kernel, by decide +kernel⟩, List.mem_of_getElem? (i := 258) (by decide +kernel), List.mem_of_getElem? (i := 599) (by decide +kernel), List.mem_of_getElem? (i := 600) (by decide +kernel)⟩
def lw_privs_1 : List (MethodName × Nat) := [(⟨"DueWheels", "refusalOfTicks", "(I)I"⟩, 12), (⟨"DueWheels$Works", "bringFarOnes", "()V"⟩, 7), (⟨"DueWheels$Works", "moveFrom", "(II)V"⟩, 7), (⟨"DueWheels$Works", "ringLine", "()V"⟩, 7), (⟨"DueWheels$Works", "ring", "(LDueWheels$Timer;)V"⟩, 7), (⟨"DueWheels$Works", "catchUp", "(LDueWheels$Timer;)V"⟩, 7), (⟨"DueWheels", "keepWhatRang", "()I"⟩, 12), (⟨"DueWheels", "tellLatest", "(IZ)V"⟩, 12), (⟨"DueWheels", "refusalOfLeap", "(I)I"⟩, 12), (⟨"DueWheels", "putApart", "(LDueWheels$Line;I)I"⟩, 12), (⟨"DueWheels$Acts", "readsAct", "(LDueWheels$Text;)Z"⟩, 8), (⟨"DueWheels$Acts", "fails", "(I)Z"⟩, 8), (⟨"DueWheels$Acts", "readsSet", "(LDueWheels$Text;)Z"⟩, 8), (⟨"DueWheels$Acts", "readsNumber", "(LDueWheels$Text;III)Z"⟩, 8), (⟨"DueWheels$Acts", "keepsNumber", "()Z"⟩, 8), (⟨"DueWheels$Acts", "readsSign", "(LDueWheels$Text;I)Z"⟩, 8)]
theorem lw_r1 : ∀ q ∈ lw_privs_1, lw_okq q := List.forall_mem_cons.mpr ⟨lw_p0, List.forall_mem_cons.mpr ⟨lw_p1, List.forall_mem_cons.mpr ⟨lw_p2, List.forall_mem_cons.mpr ⟨lw_p3, List.forall_mem_cons.mpr ⟨lw_p4, List.forall_mem_cons.mpr ⟨lw_p5, List.forall_mem_cons.mpr ⟨lw_p6, List.forall_mem_cons.mpr ⟨lw_p7, List.forall_mem_cons.mpr ⟨lw_p8, List.forall_mem_cons.mpr ⟨lw_p9, List.forall_mem_cons.mpr ⟨lw_p10, List.forall_mem_cons.mpr ⟨lw_p11, List.forall_mem_cons.mpr ⟨lw_p12, List.forall_mem_cons.mpr ⟨lw_p13, List.forall_mem_cons.mpr ⟨lw_p14, List.forall_mem_cons.mpr ⟨lw_p15, fun _ h => absurd h List.not_mem_nil⟩⟩⟩⟩⟩⟩⟩⟩⟩⟩⟩⟩⟩⟩⟩⟩
theorem lw_p16 : lw_okq (⟨"DueWheels$Acts", "readsLeap", "(LDueWheels$Text;)Z"⟩, 8) := ⟨⟨by decide +kernel, by decide +kernel⟩, List.mem_of_getElem? (i := 258) (by decide +kernel), List.mem_of_getElem? (i := 603) (by decide +kernel), List.mem_of_getElem? (i := 604) (by decide +kernel)⟩
theorem lw_p17 : lw_okq (⟨"DueWheels", "does", "(I)Z"⟩, 12) := ⟨⟨by decide +kernel, by decide +kernel⟩, List.mem_of_getElem? (i := 18) (by decide +kernel), List.mem_of_getElem? (i := 611) (by decide +kernel), List.mem_of_getElem? (i := 612) (by decide +kernel)⟩
theorem lw_p18 : lw_okq (⟨"DueWheels", "tellLine", "(LDueWheels$Line;)V"⟩, 12) := ⟨⟨by decide +kernel, by decide +kernel⟩, List.mem_of_getElem? (i := 18) (by decide +kernel), List.mem_of_getElem? (i := 640) (by decide +kernel), List.mem_of_getElem? (i := 641) (by decide +kernel)⟩
theorem lw_p19 : lw_okq (⟨"DueWheels", "tellWhatRings", "(I)V"⟩, 12) := ⟨⟨by decide +kernel, by decide +kernel⟩, List.mem_of_getElem? (i := 18) (by decide +kernel), List.mem_of_getElem? (i := 688) (by decide +kernel), List.mem_of_getElem? (i := 689) (by decide +kernel)⟩
theorem lw_p20 : lw_okq (⟨"DueWheels", "movesBy", "(LDueWheels$Shape;)I"⟩, 12) := ⟨⟨by decide +kernel, by decide +kernel⟩, List.mem_of_getElem? (i := 18) (by decide +kernel), List.mem_of_getElem? (i := 718) (by decide +kernel), List.mem_of_getElem? (i := 719) (by decide +kernel)⟩
theorem lw_p21 : lw_okq (⟨"java/lang/Throwable", "fillInStackTrace", "(I)Ljava/lang/Throwable;"⟩, 6) := ⟨⟨by decide +kernel, by decide +kernel⟩, List.mem_of_getElem? (i := 823) (by decide +kernel), List.mem_of_getElem? (i := 821) (by decide +kernel), List.mem_of_getElem? (i := 822) (by decide +kernel)⟩
theorem lw_p22 : lw_okq (⟨"DueWheelsModel", "puts", "(II)V"⟩, 21) := ⟨⟨by decide +kernel, by decide +kernel⟩, List.mem_of_getElem? (i := 870) (by decide +kernel), List.mem_of_getElem? (i := 876) (by decide +kernel), List.mem_of_getElem? (i := 877) (by decide +kernel)⟩
theorem lw_p23 : lw_okq (⟨"DueWheelsModel", "wishes", "(IIII)I"⟩, 21) := ⟨⟨by decide +kernel, by decide +kernel⟩, List.mem_of_getElem? (i := 870) (by decide +kernel), List.mem_of_getElem? (i := 948) (by decide +kernel), List.mem_of_getElem? (i := 949) (by decide +kernel)⟩
theorem lw_p24 : lw_okq (⟨"DueWheelsModel", "isAsWished", "(I)Z"⟩, 21) := ⟨⟨by decide +kernel, by decide +kernel⟩, List.mem_of_getElem? (i := 870) (by decide +kernel), List.mem_of_getElem? (i := 954) (by decide +kernel), List.mem_of_getElem? (i := 955) (by decide +kernel)⟩
theorem lw_p25 : lw_okq (⟨"DueWheelsModel", "of", "(I)I"⟩, 21) := ⟨⟨by decide +kernel, by decide +kernel⟩, List.mem_of_getElem? (i := 870) (by decide +kernel), List.mem_of_getElem? (i := 958) (by decide +kernel), List.mem_of_getElem? (i := 959) (by decide +kernel)⟩
theorem lw_p26 : lw_okq (⟨"DueWheelsModel", "laysWished", "(I)V"⟩, 21) := ⟨⟨by decide +kernel, by decide +kernel⟩, List.mem_of_getElem? (i := 870) (by decide +kernel), List.mem_of_getElem? (i := 962) (by decide +kernel), List.mem_of_getElem? (i := 963) (by decide +kernel)⟩
theorem lw_p27 : lw_okq (⟨"DueWheelsModel", "laysAll", "()V"⟩, 21) := ⟨⟨by decide +kernel, by decide +kernel⟩, List.mem_of_getElem? (i := 870) (by decide +kernel), List.mem_of_getElem? (i := 966) (by decide +kernel), List.mem_of_getElem? (i := 967) (by decide +kernel)⟩
theorem lw_p28 : lw_okq (⟨"DueWheelsModel", "goes", "(I)Z"⟩, 21) := ⟨⟨by decide +kernel, by decide +kernel⟩, List.mem_of_getElem? (i := 870) (by decide +kernel), List.mem_of_getElem? (i := 970) (by decide +kernel), List.mem_of_getElem? (i := 971) (by decide +kernel)⟩
theorem lw_p29 : lw_okq (⟨"DueWheelsModel", "isTimer", "(I)Z"⟩, 21) := ⟨⟨by decide +kernel, by decide +kernel⟩, List.mem_of_getElem? (i := 870) (by decide +kernel), List.mem_of_getElem? (i := 974) (by decide +kernel), List.mem_of_getElem? (i := 975) (by decide +kernel)⟩
theorem lw_p30 : lw_okq (⟨"DueWheelsModel", "lays", "(I)V"⟩, 21) := ⟨⟨by decide +kernel, by decide +kernel⟩, List.mem_of_getElem? (i := 870) (by decide +kernel), List.mem_of_getElem? (i := 979) (by decide +kernel), List.mem_of_getElem? (i := 980) (by decide +kernel)⟩
theorem lw_p31 : lw_okq (⟨"DueWheelsModel", "levelFor", "(I)I"⟩, 21) := ⟨⟨by decide +kernel, by decide +kernel⟩, List.mem_of_getElem? (i := 870) (by decide +kernel), List.mem_of_getElem? (i := 983) (by decide +kernel), List.mem_of_getElem? (i := 984) (by decide +kernel)⟩
def lw_privs_2 : List (MethodName × Nat) := [(⟨"DueWheels$Acts", "readsLeap", "(LDueWheels$Text;)Z"⟩, 8), (⟨"DueWheels", "does", "(I)Z"⟩, 12), (⟨"DueWheels", "tellLine", "(LDueWheels$Line;)V"⟩, 12), (⟨"DueWheels", "tellWhatRings", "(I)V"⟩, 12), (⟨"DueWheels", "movesBy", "(LDueWheels$Shape;)I"⟩, 12), (⟨"java/lang/Throwable", "fillInStackTrace", "(I)Ljava/lang/Throwable;"⟩, 6), (⟨"DueWheelsModel", "puts", "(II)V"⟩, 21), (⟨"DueWheelsModel", "wishes", "(IIII)I"⟩, 21), (⟨"DueWheelsModel", "isAsWished", "(I)Z"⟩, 21), (⟨"DueWheelsModel", "of", "(I)I"⟩, 21), (⟨"DueWheelsModel", "laysWished", "(I)V"⟩, 21), (⟨"DueWheelsModel", "laysAll", "()V"⟩, 21), (⟨"DueWheelsModel", "goes", "(I)Z"⟩, 21), (⟨"DueWheelsModel", "isTimer", "(I)Z"⟩, 21), (⟨"DueWheelsModel", "lays", "(I)V"⟩, 21), (⟨"DueWheelsModel", "levelFor", "(I)I"⟩, 21)]
theorem lw_r2 : ∀ q ∈ lw_privs_2, lw_okq q := List.forall_mem_cons.mpr ⟨lw_p16, List.forall_mem_cons.mpr ⟨lw_p17, List.forall_mem_cons.mpr ⟨lw_p18, List.forall_mem_cons.mpr ⟨lw_p19, List.forall_mem_cons.mpr ⟨lw_p20, List.forall_mem_cons.mpr ⟨lw_p21, List.forall_mem_cons.mpr ⟨lw_p22, List.forall_mem_cons.mpr ⟨lw_p23, List.forall_mem_cons.mpr ⟨lw_p24, List.forall_mem_cons.mpr ⟨lw_p25, List.forall_mem_cons.mpr ⟨lw_p26, List.forall_mem_cons.mpr ⟨lw_p27, List.forall_mem_cons.mpr ⟨lw_p28, List.forall_mem_cons.mpr ⟨lw_p29, List.forall_mem_cons.mpr ⟨lw_p30, List.forall_mem_cons.mpr ⟨lw_p31, fun _ h => absurd h List.not_mem_nil⟩⟩⟩⟩⟩⟩⟩⟩⟩⟩⟩⟩⟩⟩⟩⟩
theorem lw_p32 : lw_okq (⟨"DueWheelsModel", "span", "(I)I"⟩, 21) := ⟨⟨by decide +kernel, by decide +kernel⟩, List.mem_of_getElem? (i := 870) (by decide +kernel), List.mem_of_getElem? (i := 987) (by decide +kernel), List.mem_of_getElem? (i := 988) (by decide +kernel)⟩
theorem lw_p33 : lw_okq (⟨"DueWheelsModel", "ticksOf", "(I)I"⟩, 21) := ⟨⟨by decide +kernel, by decide +kernel⟩, List.mem_of_getElem? (i := 870) (by decide +kernel), List.mem_of_getElem? (i := 1000) (by decide +kernel), List.mem_of_getElem? (i := 1001) (by decide +kernel)⟩
theorem lw_p34 : lw_okq (⟨"DueWheelsModel", "tick", "()V"⟩, 21) := ⟨⟨by decide +kernel, by decide +kernel⟩, List.mem_of_getElem? (i := 870) (by decide +kernel), List.mem_of_getElem? (i := 1005) (by decide +kernel), List.mem_of_getElem? (i := 1006) (by decide +kernel)⟩
theorem lw_p35 : lw_okq (⟨"DueWheelsModel", "more", "(II)V"⟩, 21) := ⟨⟨by decide +kernel, by decide +kernel⟩, List.mem_of_getElem? (i := 870) (by decide +kernel), List.mem_of_getElem? (i := 1009) (by decide +kernel), List.mem_of_getElem? (i := 1010) (by decide +kernel)⟩
theorem lw_p36 : lw_okq (⟨"DueWheelsModel", "whole", "()I"⟩, 21) := ⟨⟨by decide +kernel, by decide +kernel⟩, List.mem_of_getElem? (i := 870) (by decide +kernel), List.mem_of_getElem? (i := 1013) (by decide +kernel), List.mem_of_getElem? (i := 1014) (by decide +kernel)⟩
theorem lw_p37 : lw_okq (⟨"DueWheelsModel", "moves1", "(I)V"⟩, 21) := ⟨⟨by decide +kernel, by decide +kernel⟩, List.mem_of_getElem? (i := 870) (by decide +kernel), List.mem_of_getElem? (i := 1017) (by decide +kernel), List.mem_of_getElem? (i := 1018) (by decide +kernel)⟩
theorem lw_p38 : lw_okq (⟨"DueWheelsModel", "queues", "(IZ)V"⟩, 21) := ⟨⟨by decide +kernel, by decide +kernel⟩, List.mem_of_getElem? (i := 870) (by decide +kernel), List.mem_of_getElem? (i := 1021) (by decide +kernel), List.mem_of_getElem? (i := 1022) (by decide +kernel)⟩
theorem lw_p39 : lw_okq (⟨"DueWheelsModel", "isSooner", "(IIZ)Z"⟩, 21) := ⟨⟨by decide +kernel, by decide +kernel⟩, List.mem_of_getElem? (i := 870) (by decide +kernel), List.mem_of_getElem? (i := 1025) (by decide +kernel), List.mem_of_getElem? (i := 1026) (by decide +kernel)⟩
theorem lw_p40 : lw_okq (⟨"DueWheelsModel", "isAhead", "(II)Z"⟩, 21) := ⟨⟨by decide +kernel, by decide +kernel⟩, List.mem_of_getElem? (i := 870) (by decide +kernel), List.mem_of_getElem? (i := 1029) (by decide +kernel), List.mem_of_getElem? (i := 1030) (by decide +kernel)⟩
theorem lw_p41 : lw_okq (⟨"DueWheelsModel", "ringsAll", "(Z)V"⟩, 21) := ⟨⟨by decide +kernel, by decide +kernel⟩, List.mem_of_getElem? (i := 870) (by decide +kernel), List.mem_of_getElem? (i := 1033) (by decide +kernel), List.mem_of_getElem? (i := 1034) (by decide +kernel)⟩
theorem lw_p42 : lw_okq (⟨"DueWheelsModel", "keepsRung", "(I)V"⟩, 21) := ⟨⟨by decide +kernel, by decide +kernel⟩, List.mem_of_getElem? (i := 870) (by decide +kernel), List.mem_of_getElem? (i := 1037) (by decide +kernel), List.mem_of_getElem? (i := 1038) (by decide +kernel)⟩
theorem lw_p43 : lw_okq (⟨"DueWheelsModel", "comesAgain", "(I)V"⟩, 21) := ⟨⟨by decide +kernel, by decide +kernel⟩, List.mem_of_getElem? (i := 870) (by decide +kernel), List.mem_of_getElem? (i := 1041) (by decide +kernel), List.mem_of_getElem? (i := 1042) (by decide +kernel)⟩
theorem lw_p44 : lw_okq (⟨"DueWheelsModel", "tellsLatest", "()V"⟩, 21) := ⟨⟨by decide +kernel, by decide +kernel⟩, List.mem_of_getElem? (i := 870) (by decide +kernel), List.mem_of_getElem? (i := 1046) (by decide +kernel), List.mem_of_getElem? (i := 1047) (by decide +kernel)⟩
theorem lw_p45 : lw_okq (⟨"DueWheelsModel", "enters", "(J)V"⟩, 21) := ⟨⟨by decide +kernel, by decide +kernel⟩, List.mem_of_getElem? (i := 870) (by decide +kernel), List.mem_of_getElem? (i := 1051) (by decide +kernel), List.mem_of_getElem? (i := 1052) (by decide +kernel)⟩
theorem lw_p46 : lw_okq (⟨"DueWheelsModel", "leapsBy", "(I)I"⟩, 21) := ⟨⟨by decide +kernel, by decide +kernel⟩, List.mem_of_getElem? (i := 870) (by decide +kernel), List.mem_of_getElem? (i := 1064) (by decide +kernel), List.mem_of_getElem? (i := 1065) (by decide +kernel)⟩
theorem lw_p47 : lw_okq (⟨"DueWheelsModel", "setsOne", "(IIIII)I"⟩, 21) := ⟨⟨by decide +kernel, by decide +kernel⟩, List.mem_of_getElem? (i := 870) (by decide +kernel), List.mem_of_getElem? (i := 1080) (by decide +kernel), List.mem_of_getElem? (i := 1081) (by decide +kernel)⟩
def lw_privs_3 : List (MethodName × Nat) := [(⟨"DueWheelsModel", "span", "(I)I"⟩, 21), (⟨"DueWheelsModel", "ticksOf", "(I)I"⟩, 21), (⟨"DueWheelsModel", "tick", "()V"⟩, 21), (⟨"DueWheelsModel", "more", "(II)V"⟩, 21), (⟨"DueWheelsModel", "whole", "()I"⟩, 21), (⟨"DueWheelsModel", "moves1", "(I)V"⟩, 21), (⟨"DueWheelsModel", "queues", "(IZ)V"⟩, 21), (⟨"DueWheelsModel", "isSooner", "(IIZ)Z"⟩, 21), (⟨"DueWheelsModel", "isAhead", "(II)Z"⟩, 21), (⟨"DueWheelsModel", "ringsAll", "(Z)V"⟩, 21), (⟨"DueWheelsModel", "keepsRung", "(I)V"⟩, 21), (⟨"DueWheelsModel", "comesAgain", "(I)V"⟩, 21), (⟨"DueWheelsModel", "tellsLatest", "()V"⟩, 21), (⟨"DueWheelsModel", "enters", "(J)V"⟩, 21), (⟨"DueWheelsModel", "leapsBy", "(I)I"⟩, 21), (⟨"DueWheelsModel", "setsOne", "(IIIII)I"⟩, 21)]
theorem lw_r3 : ∀ q ∈ lw_privs_3, lw_okq q := List.forall_mem_cons.mpr ⟨lw_p32, List.forall_mem_cons.mpr ⟨lw_p33, List.forall_mem_cons.mpr ⟨lw_p34, List.forall_mem_cons.mpr ⟨lw_p35, List.forall_mem_cons.mpr ⟨lw_p36, List.forall_mem_cons.mpr ⟨lw_p37, List.forall_mem_cons.mpr ⟨lw_p38, List.forall_mem_cons.mpr ⟨lw_p39, List.forall_mem_cons.mpr ⟨lw_p40, List.forall_mem_cons.mpr ⟨lw_p41, List.forall_mem_cons.mpr ⟨lw_p42, List.forall_mem_cons.mpr ⟨lw_p43, List.forall_mem_cons.mpr ⟨lw_p44, List.forall_mem_cons.mpr ⟨lw_p45, List.forall_mem_cons.mpr ⟨lw_p46, List.forall_mem_cons.mpr ⟨lw_p47, fun _ h => absurd h List.not_mem_nil⟩⟩⟩⟩⟩⟩⟩⟩⟩⟩⟩⟩⟩⟩⟩⟩
theorem lw_p48 : lw_okq (⟨"DueWheelsModel", "cancelsOne", "(I)I"⟩, 21) := ⟨⟨by decide +kernel, by decide +kernel⟩, List.mem_of_getElem? (i := 870) (by decide +kernel), List.mem_of_getElem? (i := 1088) (by decide +kernel), List.mem_of_getElem? (i := 1089) (by decide +kernel)⟩
theorem lw_p49 : lw_okq (⟨"DueWheelsModel", "many", "()I"⟩, 21) := ⟨⟨by decide +kernel, by decide +kernel⟩, List.mem_of_getElem? (i := 870) (by decide +kernel), List.mem_of_getElem? (i := 1092) (by decide +kernel), List.mem_of_getElem? (i := 1093) (by decide +kernel)⟩
theorem lw_p50 : lw_okq (⟨"DueWheelsModel", "pausesOne", "(I)V"⟩, 21) := ⟨⟨by decide +kernel, by decide +kernel⟩, List.mem_of_getElem? (i := 870) (by decide +kernel), List.mem_of_getElem? (i := 1111) (by decide +kernel), List.mem_of_getElem? (i := 1112) (by decide +kernel)⟩
theorem lw_p51 : lw_okq (⟨"DueWheelsModel", "resumesOne", "(I)V"⟩, 21) := ⟨⟨by decide +kernel, by decide +kernel⟩, List.mem_of_getElem? (i := 870) (by decide +kernel), List.mem_of_getElem? (i := 1119) (by decide +kernel), List.mem_of_getElem? (i := 1120) (by decide +kernel)⟩
theorem lw_p52 : lw_okq (⟨"DueWheelsModel", "takes", "(I)Z"⟩, 21) := ⟨⟨by decide +kernel, by decide +kernel⟩, List.mem_of_getElem? (i := 870) (by decide +kernel), List.mem_of_getElem? (i := 1146) (by decide +kernel), List.mem_of_getElem? (i := 1147) (by decide +kernel)⟩
theorem lw_p53 : lw_okq (⟨"DueWheelsModel", "readsAct", "(I)Z"⟩, 21) := ⟨⟨by decide +kernel, by decide +kernel⟩, List.mem_of_getElem? (i := 870) (by decide +kernel), List.mem_of_getElem? (i := 1150) (by decide +kernel), List.mem_of_getElem? (i := 1151) (by decide +kernel)⟩
theorem lw_p54 : lw_okq (⟨"DueWheelsModel", "number", "(III)I"⟩, 21) := ⟨⟨by decide +kernel, by decide +kernel⟩, List.mem_of_getElem? (i := 870) (by decide +kernel), List.mem_of_getElem? (i := 1154) (by decide +kernel), List.mem_of_getElem? (i := 1155) (by decide +kernel)⟩
theorem lw_p55 : lw_okq (⟨"DueWheelsModel", "isDigit", "()Z"⟩, 21) := ⟨⟨by decide +kernel, by decide +kernel⟩, List.mem_of_getElem? (i := 870) (by decide +kernel), List.mem_of_getElem? (i := 1158) (by decide +kernel), List.mem_of_getElem? (i := 1159) (by decide +kernel)⟩
theorem lw_p56 : lw_okq (⟨"DueWheelsModel", "doesAct", "(I)I"⟩, 21) := ⟨⟨by decide +kernel, by decide +kernel⟩, List.mem_of_getElem? (i := 870) (by decide +kernel), List.mem_of_getElem? (i := 1164) (by decide +kernel), List.mem_of_getElem? (i := 1165) (by decide +kernel)⟩
theorem lw_p57 : lw_okq (⟨"DueWheelsModel", "tellsLine", "()V"⟩, 21) := ⟨⟨by decide +kernel, by decide +kernel⟩, List.mem_of_getElem? (i := 870) (by decide +kernel), List.mem_of_getElem? (i := 1177) (by decide +kernel), List.mem_of_getElem? (i := 1178) (by decide +kernel)⟩
theorem lw_p58 : lw_okq (⟨"DueWheelsModel", "tries", "()V"⟩, 21) := ⟨⟨by decide +kernel, by decide +kernel⟩, List.mem_of_getElem? (i := 870) (by decide +kernel), List.mem_of_getElem? (i := 1185) (by decide +kernel), List.mem_of_getElem? (i := 1186) (by decide +kernel)⟩
theorem lw_p59 : lw_okq (⟨"DueWheelsModel", "isBack", "()V"⟩, 21) := ⟨⟨by decide +kernel, by decide +kernel⟩, List.mem_of_getElem? (i := 870) (by decide +kernel), List.mem_of_getElem? (i := 1189) (by decide +kernel), List.mem_of_getElem? (i := 1190) (by decide +kernel)⟩
theorem lw_p60 : lw_okq (⟨"DueWheelsModel", "tellsFirst", "()V"⟩, 21) := ⟨⟨by decide +kernel, by decide +kernel⟩, List.mem_of_getElem? (i := 870) (by decide +kernel), List.mem_of_getElem? (i := 1209) (by decide +kernel), List.mem_of_getElem? (i := 1210) (by decide +kernel)⟩
theorem lw_p61 : lw_okq (⟨"DueWheelsModel", "movesOf", "(I)I"⟩, 21) := ⟨⟨by decide +kernel, by decide +kernel⟩, List.mem_of_getElem? (i := 870) (by decide +kernel), List.mem_of_getElem? (i := 1221) (by decide +kernel), List.mem_of_getElem? (i := 1222) (by decide +kernel)⟩
theorem lw_p62 : lw_okq (⟨"DueWheelsModel", "ways", "(II)I"⟩, 21) := ⟨⟨by decide +kernel, by decide +kernel⟩, List.mem_of_getElem? (i := 870) (by decide +kernel), List.mem_of_getElem? (i := 1225) (by decide +kernel), List.mem_of_getElem? (i := 1226) (by decide +kernel)⟩
theorem lw_p63 : lw_okq (⟨"DueWheelsModel", "costOf", "(I)I"⟩, 21) := ⟨⟨by decide +kernel, by decide +kernel⟩, List.mem_of_getElem? (i := 870) (by decide +kernel), List.mem_of_getElem? (i := 1237) (by decide +kernel), List.mem_of_getElem? (i := 1238) (by decide +kernel)⟩
def lw_privs_4 : List (MethodName × Nat) := [(⟨"DueWheelsModel", "cancelsOne", "(I)I"⟩, 21), (⟨"DueWheelsModel", "many", "()I"⟩, 21), (⟨"DueWheelsModel", "pausesOne", "(I)V"⟩, 21), (⟨"DueWheelsModel", "resumesOne", "(I)V"⟩, 21), (⟨"DueWheelsModel", "takes", "(I)Z"⟩, 21), (⟨"DueWheelsModel", "readsAct", "(I)Z"⟩, 21), (⟨"DueWheelsModel", "number", "(III)I"⟩, 21), (⟨"DueWheelsModel", "isDigit", "()Z"⟩, 21), (⟨"DueWheelsModel", "doesAct", "(I)I"⟩, 21), (⟨"DueWheelsModel", "tellsLine", "()V"⟩, 21), (⟨"DueWheelsModel", "tries", "()V"⟩, 21), (⟨"DueWheelsModel", "isBack", "()V"⟩, 21), (⟨"DueWheelsModel", "tellsFirst", "()V"⟩, 21), (⟨"DueWheelsModel", "movesOf", "(I)I"⟩, 21), (⟨"DueWheelsModel", "ways", "(II)I"⟩, 21), (⟨"DueWheelsModel", "costOf", "(I)I"⟩, 21)]
theorem lw_r4 : ∀ q ∈ lw_privs_4, lw_okq q := List.forall_mem_cons.mpr ⟨lw_p48, List.forall_mem_cons.mpr ⟨lw_p49, List.forall_mem_cons.mpr ⟨lw_p50, List.forall_mem_cons.mpr ⟨lw_p51, List.forall_mem_cons.mpr ⟨lw_p52, List.forall_mem_cons.mpr ⟨lw_p53, List.forall_mem_cons.mpr ⟨lw_p54, List.forall_mem_cons.mpr ⟨lw_p55, List.forall_mem_cons.mpr ⟨lw_p56, List.forall_mem_cons.mpr ⟨lw_p57, List.forall_mem_cons.mpr ⟨lw_p58, List.forall_mem_cons.mpr ⟨lw_p59, List.forall_mem_cons.mpr ⟨lw_p60, List.forall_mem_cons.mpr ⟨lw_p61, List.forall_mem_cons.mpr ⟨lw_p62, List.forall_mem_cons.mpr ⟨lw_p63, fun _ h => absurd h List.not_mem_nil⟩⟩⟩⟩⟩⟩⟩⟩⟩⟩⟩⟩⟩⟩⟩⟩
theorem lw_p64 : lw_okq (⟨"DueWheelsModel", "pausedMany", "()I"⟩, 21) := ⟨⟨by decide +kernel, by decide +kernel⟩, List.mem_of_getElem? (i := 870) (by decide +kernel), List.mem_of_getElem? (i := 1285) (by decide +kernel), List.mem_of_getElem? (i := 1286) (by decide +kernel)⟩
theorem lw_p65 : lw_okq (⟨"DueWheelsModel", "farMany", "()I"⟩, 21) := ⟨⟨by decide +kernel, by decide +kernel⟩, List.mem_of_getElem? (i := 870) (by decide +kernel), List.mem_of_getElem? (i := 1289) (by decide +kernel), List.mem_of_getElem? (i := 1290) (by decide +kernel)⟩
def lw_privs_5 : List (MethodName × Nat) := [(⟨"DueWheelsModel", "pausedMany", "()I"⟩, 21), (⟨"DueWheelsModel", "farMany", "()I"⟩, 21)]
theorem lw_r5 : ∀ q ∈ lw_privs_5, lw_okq q := List.forall_mem_cons.mpr ⟨lw_p64, List.forall_mem_cons.mpr ⟨lw_p65, fun _ h => absurd h List.not_mem_nil⟩⟩
def lw_privs : List (MethodName × Nat) := lw_privs_1 ++ (lw_privs_2 ++ (lw_privs_3 ++ (lw_privs_4 ++ (lw_privs_5))))
def lw_tbl : List Cond := k2_sels lw_privs ++ tables_1
theorem lw_privs_ok : ∀ q ∈ lw_privs, lw_okq q := by
  show ∀ q ∈ lw_privs_1 ++ (lw_privs_2 ++ (lw_privs_3 ++ (lw_privs_4 ++ (lw_privs_5)))), lw_okq q
  exact List.forall_mem_append.mpr ⟨lw_r1, List.forall_mem_append.mpr ⟨lw_r2, List.forall_mem_append.mpr ⟨lw_r3, List.forall_mem_append.mpr ⟨lw_r4, lw_r5⟩⟩⟩⟩
end
section
def RX0 : String := "DueWheels$Acts"
def TX0 : u_T := fun k => match k with
  | 0 => ("DueWheels$Acts", "kinds", "[I", true)
  | 1 => ("DueWheels$Acts", "numbers", "[I", true)
  | 2 => ("DueWheels$Acts", "sorts", "[I", true)
  | 3 => ("DueWheels$Acts", "periods", "[I", true)
  | 4 => ("DueWheels$Acts", "length", "I", false)
  | 5 => ("DueWheels$Acts", "wrongAt", "I", false)
  | 6 => ("DueWheels$Acts", "place", "I", false)
  | _ => ("DueWheels$Acts", "number", "I", false)
def tyX0 : Nat → FieldType := fun k => match k with
  | 0 => .array .int
  | 1 => .array .int
  | 2 => .array .int
  | 3 => .array .int
  | 4 => .int
  | 5 => .int
  | 6 => .int
  | _ => .int
abbrev wsX00 : List Cond := u_ws RX0 TX0 8
theorem nmX0 : ∀ a, a < 8 → ∀ b, b < 8 → a ≠ b → (TX0 a).2.1 ≠ (TX0 b).2.1 := by decide +kernel
theorem tyX0_ok : ∀ k, k < 8 → parseFieldDescriptor (TX0 k).2.2.1 = some (tyX0 k) := by decide +kernel
abbrev cX0_init : ByteArray := prog_2_method_1_code
def yX0_init : MethodName := ⟨RX0, "<init>", "()V"⟩
abbrev cX0_readsAll : ByteArray := prog_2_method_2_code
def yX0_readsAll : MethodName := ⟨RX0, "readsAll", "(LDueWheels$Text;)Z"⟩
abbrev cX0_readsAct : ByteArray := prog_2_method_3_code
def yX0_readsAct : MethodName := ⟨RX0, "readsAct", "(LDueWheels$Text;)Z"⟩
abbrev cX0_readsSet : ByteArray := prog_2_method_4_code
def yX0_readsSet : MethodName := ⟨RX0, "readsSet", "(LDueWheels$Text;)Z"⟩
abbrev cX0_readsLeap : ByteArray := prog_2_method_5_code
def yX0_readsLeap : MethodName := ⟨RX0, "readsLeap", "(LDueWheels$Text;)Z"⟩
abbrev cX0_keepsNumber : ByteArray := prog_2_method_6_code
def yX0_keepsNumber : MethodName := ⟨RX0, "keepsNumber", "()Z"⟩
abbrev cX0_readsNumber : ByteArray := prog_2_method_7_code
def yX0_readsNumber : MethodName := ⟨RX0, "readsNumber", "(LDueWheels$Text;III)Z"⟩
abbrev cX0_readsSign : ByteArray := prog_2_method_8_code
def yX0_readsSign : MethodName := ⟨RX0, "readsSign", "(LDueWheels$Text;I)Z"⟩
abbrev cX0_isDigit : ByteArray := prog_2_method_9_code
def yX0_isDigit : MethodName := ⟨RX0, "isDigit", "(I)Z"⟩
abbrev cX0_fails : ByteArray := prog_2_method_10_code
def yX0_fails : MethodName := ⟨RX0, "fails", "(I)Z"⟩
def RX1 : String := "DueWheels$Line"
def TX1 : u_T := fun k => match k with
  | 0 => ("DueWheels$Line", "timers", "[LDueWheels$Timer;", true)
  | _ => ("DueWheels$Line", "length", "I", false)
def tyX1 : Nat → FieldType := fun k => match k with
  | 0 => .array (.object "DueWheels$Timer")
  | _ => .int
abbrev wsX10 : List Cond := u_ws RX1 TX1 2
theorem nmX1 : ∀ a, a < 2 → ∀ b, b < 2 → a ≠ b → (TX1 a).2.1 ≠ (TX1 b).2.1 := by decide +kernel
theorem tyX1_ok : ∀ k, k < 2 → parseFieldDescriptor (TX1 k).2.2.1 = some (tyX1 k) := by decide +kernel
abbrev cX1_init : ByteArray := prog_3_method_1_code
def yX1_init : MethodName := ⟨RX1, "<init>", "()V"⟩
abbrev cX1_empty : ByteArray := prog_3_method_2_code
def yX1_empty : MethodName := ⟨RX1, "empty", "()V"⟩
abbrev cX1_at : ByteArray := prog_3_method_3_code
def yX1_at : MethodName := ⟨RX1, "at", "(I)LDueWheels$Timer;"⟩
abbrev cX1_join : ByteArray := prog_3_method_4_code
def yX1_join : MethodName := ⟨RX1, "join", "(LDueWheels$Timer;ZI)V"⟩
def RX2 : String := "DueWheels$Log"
def TX2 : u_T := fun k => match k with
  | 0 => ("DueWheels$Log", "timers", "[I", true)
  | 1 => ("DueWheels$Log", "clocks", "[I", true)
  | 2 => ("DueWheels$Log", "dues", "[I", true)
  | 3 => ("DueWheels$Log", "groups", "[I", true)
  | 4 => ("DueWheels$Log", "rangs", "[I", true)
  | 5 => ("DueWheels$Log", "kept", "I", false)
  | 6 => ("DueWheels$Log", "rangInAll", "I", false)
  | _ => ("DueWheels$Log", "nextPlace", "I", false)
def tyX2 : Nat → FieldType := fun k => match k with
  | 0 => .array .int
  | 1 => .array .int
  | 2 => .array .int
  | 3 => .array .int
  | 4 => .array .int
  | 5 => .int
  | 6 => .int
  | _ => .int
abbrev wsX20 : List Cond := u_ws RX2 TX2 8
theorem nmX2 : ∀ a, a < 8 → ∀ b, b < 8 → a ≠ b → (TX2 a).2.1 ≠ (TX2 b).2.1 := by decide +kernel
theorem tyX2_ok : ∀ k, k < 8 → parseFieldDescriptor (TX2 k).2.2.1 = some (tyX2 k) := by decide +kernel
abbrev cX2_init : ByteArray := prog_4_method_1_code
def yX2_init : MethodName := ⟨RX2, "<init>", "()V"⟩
abbrev cX2_keep : ByteArray := prog_4_method_2_code
def yX2_keep : MethodName := ⟨RX2, "keep", "(LDueWheels$Timer;I)V"⟩
abbrev cX2_placeOf : ByteArray := prog_4_method_3_code
def yX2_placeOf : MethodName := ⟨RX2, "placeOf", "(I)I"⟩
def RX3 : String := "DueWheels$Row"
def TX3 : u_T := fun k => match k with
  | 0 => ("DueWheels$Row", "numbers", "[J", true)
  | _ => ("DueWheels$Row", "length", "I", false)
def tyX3 : Nat → FieldType := fun k => match k with
  | 0 => .array .long
  | _ => .int
abbrev wsX30 : List Cond := u_ws RX3 TX3 2
theorem nmX3 : ∀ a, a < 2 → ∀ b, b < 2 → a ≠ b → (TX3 a).2.1 ≠ (TX3 b).2.1 := by decide +kernel
theorem tyX3_ok : ∀ k, k < 2 → parseFieldDescriptor (TX3 k).2.2.1 = some (tyX3 k) := by decide +kernel
abbrev cX3_init : ByteArray := prog_5_method_1_code
def yX3_init : MethodName := ⟨RX3, "<init>", "()V"⟩
abbrev cX3_empty : ByteArray := prog_5_method_2_code
def yX3_empty : MethodName := ⟨RX3, "empty", "()V"⟩
abbrev cX3_put : ByteArray := prog_5_method_3_code
def yX3_put : MethodName := ⟨RX3, "put", "(J)V"⟩
def RX4 : String := "DueWheels$Shape"
def TX4 : u_T := fun k => match k with
  | 0 => ("DueWheels$Shape", "sizes", "[I", true)
  | 1 => ("DueWheels$Shape", "spans", "[I", true)
  | 2 => ("DueWheels$Shape", "levels", "I", false)
  | _ => ("DueWheels$Shape", "whole", "I", false)
def tyX4 : Nat → FieldType := fun k => match k with
  | 0 => .array .int
  | 1 => .array .int
  | 2 => .int
  | _ => .int
abbrev wsX40 : List Cond := u_ws RX4 TX4 4
theorem nmX4 : ∀ a, a < 4 → ∀ b, b < 4 → a ≠ b → (TX4 a).2.1 ≠ (TX4 b).2.1 := by decide +kernel
theorem tyX4_ok : ∀ k, k < 4 → parseFieldDescriptor (TX4 k).2.2.1 = some (tyX4 k) := by decide +kernel
abbrev cX4_init : ByteArray := prog_6_method_1_code
def yX4_init : MethodName := ⟨RX4, "<init>", "()V"⟩
abbrev cX4_isPossible : ByteArray := prog_6_method_2_code
def yX4_isPossible : MethodName := ⟨RX4, "isPossible", "(IIII)Z"⟩
abbrev cX4_isSize : ByteArray := prog_6_method_3_code
def yX4_isSize : MethodName := ⟨RX4, "isSize", "(I)Z"⟩
abbrev cX4_isSizeOrNone : ByteArray := prog_6_method_4_code
def yX4_isSizeOrNone : MethodName := ⟨RX4, "isSizeOrNone", "(I)Z"⟩
abbrev cX4_isOf : ByteArray := prog_6_method_5_code
def yX4_isOf : MethodName := ⟨RX4, "isOf", "(IIII)Z"⟩
abbrev cX4_become : ByteArray := prog_6_method_6_code
def yX4_become : MethodName := ⟨RX4, "become", "(IIII)V"⟩
abbrev cX4_copy : ByteArray := prog_6_method_7_code
def yX4_copy : MethodName := ⟨RX4, "copy", "(LDueWheels$Shape;)V"⟩
abbrev cX4_hasLevel : ByteArray := prog_6_method_8_code
def yX4_hasLevel : MethodName := ⟨RX4, "hasLevel", "(I)Z"⟩
abbrev cX4_sizeOf : ByteArray := prog_6_method_9_code
def yX4_sizeOf : MethodName := ⟨RX4, "sizeOf", "(I)I"⟩
abbrev cX4_spanOf : ByteArray := prog_6_method_10_code
def yX4_spanOf : MethodName := ⟨RX4, "spanOf", "(I)I"⟩
abbrev cX4_levelFor : ByteArray := prog_6_method_11_code
def yX4_levelFor : MethodName := ⟨RX4, "levelFor", "(I)I"⟩
abbrev cX4_slotFor : ByteArray := prog_6_method_12_code
def yX4_slotFor : MethodName := ⟨RX4, "slotFor", "(II)I"⟩
abbrev cX4_turnTime : ByteArray := prog_6_method_13_code
def yX4_turnTime : MethodName := ⟨RX4, "turnTime", "(II)I"⟩
abbrev cX4_movesFrom : ByteArray := prog_6_method_14_code
def yX4_movesFrom : MethodName := ⟨RX4, "movesFrom", "(II)I"⟩
def RX5 : String := "DueWheels$Text"
def TX5 : u_T := fun k => match k with
  | 0 => ("DueWheels$Text", "signs", "[I", true)
  | _ => ("DueWheels$Text", "length", "I", false)
def tyX5 : Nat → FieldType := fun k => match k with
  | 0 => .array .int
  | _ => .int
abbrev wsX50 : List Cond := u_ws RX5 TX5 2
theorem nmX5 : ∀ a, a < 2 → ∀ b, b < 2 → a ≠ b → (TX5 a).2.1 ≠ (TX5 b).2.1 := by decide +kernel
theorem tyX5_ok : ∀ k, k < 2 → parseFieldDescriptor (TX5 k).2.2.1 = some (tyX5 k) := by decide +kernel
abbrev cX5_init : ByteArray := prog_7_method_1_code
def yX5_init : MethodName := ⟨RX5, "<init>", "()V"⟩
abbrev cX5_append : ByteArray := prog_7_method_2_code
def yX5_append : MethodName := ⟨RX5, "append", "(I)Z"⟩
abbrev cX5_shorten : ByteArray := prog_7_method_3_code
def yX5_shorten : MethodName := ⟨RX5, "shorten", "(I)V"⟩
abbrev cX5_at : ByteArray := prog_7_method_4_code
def yX5_at : MethodName := ⟨RX5, "at", "(I)I"⟩
def RX6 : String := "DueWheels$Timer"
def TX6 : u_T := fun k => match k with
  | 0 => ("DueWheels$Timer", "number", "I", true)
  | 1 => ("DueWheels$Timer", "isSet", "Z", false)
  | 2 => ("DueWheels$Timer", "due", "I", false)
  | 3 => ("DueWheels$Timer", "dueAsRang", "I", false)
  | 4 => ("DueWheels$Timer", "arrival", "I", false)
  | 5 => ("DueWheels$Timer", "group", "I", false)
  | 6 => ("DueWheels$Timer", "sort", "I", false)
  | 7 => ("DueWheels$Timer", "period", "I", false)
  | 8 => ("DueWheels$Timer", "times", "I", false)
  | 9 => ("DueWheels$Timer", "rang", "I", false)
  | 10 => ("DueWheels$Timer", "isSteady", "Z", false)
  | 11 => ("DueWheels$Timer", "isPaused", "Z", false)
  | 12 => ("DueWheels$Timer", "rest", "I", false)
  | 13 => ("DueWheels$Timer", "level", "I", false)
  | _ => ("DueWheels$Timer", "slot", "I", false)
def tyX6 : Nat → FieldType := fun k => match k with
  | 0 => .int
  | 1 => .boolean
  | 2 => .int
  | 3 => .int
  | 4 => .int
  | 5 => .int
  | 6 => .int
  | 7 => .int
  | 8 => .int
  | 9 => .int
  | 10 => .boolean
  | 11 => .boolean
  | 12 => .int
  | 13 => .int
  | _ => .int
abbrev wsX60 : List Cond := u_ws RX6 TX6 15
theorem nmX6 : ∀ a, a < 15 → ∀ b, b < 15 → a ≠ b → (TX6 a).2.1 ≠ (TX6 b).2.1 := by decide +kernel
theorem tyX6_ok : ∀ k, k < 15 → parseFieldDescriptor (TX6 k).2.2.1 = some (tyX6 k) := by decide +kernel
abbrev cX6_init : ByteArray := prog_8_method_1_code
def yX6_init : MethodName := ⟨RX6, "<init>", "(I)V"⟩
abbrev cX6_start : ByteArray := prog_8_method_2_code
def yX6_start : MethodName := ⟨RX6, "start", "(II)V"⟩
abbrev cX6_copy : ByteArray := prog_8_method_3_code
def yX6_copy : MethodName := ⟨RX6, "copy", "(LDueWheels$Timer;)V"⟩
abbrev cX6_isAhead : ByteArray := prog_8_method_4_code
def yX6_isAhead : MethodName := ⟨RX6, "isAhead", "(LDueWheels$Timer;ZI)Z"⟩
def RX7 : String := "DueWheels$Works"
def TX7 : u_T := fun k => match k with
  | 0 => ("DueWheels$Works", "shape", "LDueWheels$Shape;", true)
  | 1 => ("DueWheels$Works", "timers", "[LDueWheels$Timer;", true)
  | 2 => ("DueWheels$Works", "line", "LDueWheels$Line;", true)
  | 3 => ("DueWheels$Works", "clock", "I", false)
  | 4 => ("DueWheels$Works", "rule", "I", false)
  | 5 => ("DueWheels$Works", "moved", "I", false)
  | _ => ("DueWheels$Works", "missed", "I", false)
def tyX7 : Nat → FieldType := fun k => match k with
  | 0 => .object "DueWheels$Shape"
  | 1 => .array (.object "DueWheels$Timer")
  | 2 => .object "DueWheels$Line"
  | 3 => .int
  | 4 => .int
  | 5 => .int
  | _ => .int
abbrev wsX70 : List Cond := u_ws RX7 TX7 7
theorem nmX7 : ∀ a, a < 7 → ∀ b, b < 7 → a ≠ b → (TX7 a).2.1 ≠ (TX7 b).2.1 := by decide +kernel
theorem tyX7_ok : ∀ k, k < 7 → parseFieldDescriptor (TX7 k).2.2.1 = some (tyX7 k) := by decide +kernel
abbrev cX7_init : ByteArray := prog_9_method_1_code
def yX7_init : MethodName := ⟨RX7, "<init>", "()V"⟩
abbrev cX7_copy : ByteArray := prog_9_method_2_code
def yX7_copy : MethodName := ⟨RX7, "copy", "(LDueWheels$Works;)V"⟩
abbrev cX7_find : ByteArray := prog_9_method_3_code
def yX7_find : MethodName := ⟨RX7, "find", "(I)LDueWheels$Timer;"⟩
abbrev cX7_findRunning : ByteArray := prog_9_method_4_code
def yX7_findRunning : MethodName := ⟨RX7, "findRunning", "(I)LDueWheels$Timer;"⟩
abbrev cX7_leastFree : ByteArray := prog_9_method_5_code
def yX7_leastFree : MethodName := ⟨RX7, "leastFree", "()LDueWheels$Timer;"⟩
abbrev cX7_firstDue : ByteArray := prog_9_method_6_code
def yX7_firstDue : MethodName := ⟨RX7, "firstDue", "()LDueWheels$Timer;"⟩
abbrev cX7_countSet : ByteArray := prog_9_method_7_code
def yX7_countSet : MethodName := ⟨RX7, "countSet", "()I"⟩
abbrev cX7_countOn : ByteArray := prog_9_method_8_code
def yX7_countOn : MethodName := ⟨RX7, "countOn", "(I)I"⟩
abbrev cX7_countIn : ByteArray := prog_9_method_9_code
def yX7_countIn : MethodName := ⟨RX7, "countIn", "(II)I"⟩
abbrev cX7_lay : ByteArray := prog_9_method_10_code
def yX7_lay : MethodName := ⟨RX7, "lay", "(LDueWheels$Timer;)V"⟩
abbrev cX7_layAll : ByteArray := prog_9_method_11_code
def yX7_layAll : MethodName := ⟨RX7, "layAll", "()V"⟩
abbrev cX7_pause : ByteArray := prog_9_method_12_code
def yX7_pause : MethodName := ⟨RX7, "pause", "(LDueWheels$Timer;)V"⟩
abbrev cX7_resume : ByteArray := prog_9_method_13_code
def yX7_resume : MethodName := ⟨RX7, "resume", "(LDueWheels$Timer;)V"⟩
abbrev cX7_tick : ByteArray := prog_9_method_14_code
def yX7_tick : MethodName := ⟨RX7, "tick", "()V"⟩
abbrev cX7_leap : ByteArray := prog_9_method_15_code
def yX7_leap : MethodName := ⟨RX7, "leap", "(I)V"⟩
abbrev cX7_bringFarOnes : ByteArray := prog_9_method_16_code
def yX7_bringFarOnes : MethodName := ⟨RX7, "bringFarOnes", "()V"⟩
abbrev cX7_moveFrom : ByteArray := prog_9_method_17_code
def yX7_moveFrom : MethodName := ⟨RX7, "moveFrom", "(II)V"⟩
abbrev cX7_ringLine : ByteArray := prog_9_method_18_code
def yX7_ringLine : MethodName := ⟨RX7, "ringLine", "()V"⟩
abbrev cX7_ring : ByteArray := prog_9_method_19_code
def yX7_ring : MethodName := ⟨RX7, "ring", "(LDueWheels$Timer;)V"⟩
abbrev cX7_catchUp : ByteArray := prog_9_method_20_code
def yX7_catchUp : MethodName := ⟨RX7, "catchUp", "(LDueWheels$Timer;)V"⟩
def RX8 : String := "DueWheels"
def TX8 : u_T := fun k => match k with
  | 0 => ("DueWheels", "now", "LDueWheels$Works;", true)
  | 1 => ("DueWheels", "then", "LDueWheels$Works;", true)
  | 2 => ("DueWheels", "otherShape", "LDueWheels$Shape;", true)
  | 3 => ("DueWheels", "ringingOfGroups", "[I", true)
  | 4 => ("DueWheels", "row", "LDueWheels$Row;", true)
  | 5 => ("DueWheels", "log", "LDueWheels$Log;", true)
  | 6 => ("DueWheels", "text", "LDueWheels$Text;", true)
  | 7 => ("DueWheels", "acts", "LDueWheels$Acts;", true)
  | 8 => ("DueWheels", "setInAll", "I", false)
  | 9 => ("DueWheels", "cancelled", "I", false)
  | 10 => ("DueWheels", "leaptAhead", "I", false)
  | _ => ("DueWheels", "leaptBack", "I", false)
def tyX8 : Nat → FieldType := fun k => match k with
  | 0 => .object "DueWheels$Works"
  | 1 => .object "DueWheels$Works"
  | 2 => .object "DueWheels$Shape"
  | 3 => .array .int
  | 4 => .object "DueWheels$Row"
  | 5 => .object "DueWheels$Log"
  | 6 => .object "DueWheels$Text"
  | 7 => .object "DueWheels$Acts"
  | 8 => .int
  | 9 => .int
  | 10 => .int
  | _ => .int
abbrev wsX80 : List Cond := u_ws RX8 TX8 12
theorem nmX8 : ∀ a, a < 12 → ∀ b, b < 12 → a ≠ b → (TX8 a).2.1 ≠ (TX8 b).2.1 := by decide +kernel
theorem tyX8_ok : ∀ k, k < 12 → parseFieldDescriptor (TX8 k).2.2.1 = some (tyX8 k) := by decide +kernel
abbrev cX8_init : ByteArray := prog_1_method_1_code
def yX8_init : MethodName := ⟨RX8, "<init>", "()V"⟩
abbrev cX8_wheels : ByteArray := prog_1_method_2_code
def yX8_wheels : MethodName := ⟨RX8, "wheels", "(IIII)I"⟩
abbrev cX8_order : ByteArray := prog_1_method_3_code
def yX8_order : MethodName := ⟨RX8, "order", "(I)I"⟩
abbrev cX8_ticks : ByteArray := prog_1_method_4_code
def yX8_ticks : MethodName := ⟨RX8, "ticks", "(I)I"⟩
abbrev cX8_leaps : ByteArray := prog_1_method_5_code
def yX8_leaps : MethodName := ⟨RX8, "leaps", "(I)I"⟩
abbrev cX8_sets : ByteArray := prog_1_method_6_code
def yX8_sets : MethodName := ⟨RX8, "sets", "(IIIII)I"⟩
abbrev cX8_cancels : ByteArray := prog_1_method_7_code
def yX8_cancels : MethodName := ⟨RX8, "cancels", "(I)I"⟩
abbrev cX8_cancelsAll : ByteArray := prog_1_method_8_code
def yX8_cancelsAll : MethodName := ⟨RX8, "cancelsAll", "(I)I"⟩
abbrev cX8_steady : ByteArray := prog_1_method_9_code
def yX8_steady : MethodName := ⟨RX8, "steady", "(IZ)I"⟩
abbrev cX8_pauses : ByteArray := prog_1_method_10_code
def yX8_pauses : MethodName := ⟨RX8, "pauses", "(I)I"⟩
abbrev cX8_resumes : ByteArray := prog_1_method_11_code
def yX8_resumes : MethodName := ⟨RX8, "resumes", "(I)I"⟩
abbrev cX8_holds : ByteArray := prog_1_method_12_code
def yX8_holds : MethodName := ⟨RX8, "holds", "(I)I"⟩
abbrev cX8_goesOn : ByteArray := prog_1_method_13_code
def yX8_goesOn : MethodName := ⟨RX8, "goesOn", "(I)I"⟩
abbrev cX8_spreads : ByteArray := prog_1_method_14_code
def yX8_spreads : MethodName := ⟨RX8, "spreads", "(II)I"⟩
abbrev cX8_delays : ByteArray := prog_1_method_15_code
def yX8_delays : MethodName := ⟨RX8, "delays", "(II)I"⟩
abbrev cX8_run : ByteArray := prog_1_method_16_code
def yX8_run : MethodName := ⟨RX8, "run", "()I"⟩
abbrev cX8_sign : ByteArray := prog_1_method_17_code
def yX8_sign : MethodName := ⟨RX8, "sign", "(I)I"⟩
abbrev cX8_end : ByteArray := prog_1_method_18_code
def yX8_end : MethodName := ⟨RX8, "end", "(I)Z"⟩
abbrev cX8_timer : ByteArray := prog_1_method_19_code
def yX8_timer : MethodName := ⟨RX8, "timer", "(II)I"⟩
abbrev cX8_slot : ByteArray := prog_1_method_20_code
def yX8_slot : MethodName := ⟨RX8, "slot", "(II)I"⟩
abbrev cX8_far : ByteArray := prog_1_method_21_code
def yX8_far : MethodName := ⟨RX8, "far", "()I"⟩
abbrev cX8_group : ByteArray := prog_1_method_22_code
def yX8_group : MethodName := ⟨RX8, "group", "(I)I"⟩
abbrev cX8_full : ByteArray := prog_1_method_23_code
def yX8_full : MethodName := ⟨RX8, "full", "(I)I"⟩
abbrev cX8_next : ByteArray := prog_1_method_24_code
def yX8_next : MethodName := ⟨RX8, "next", "()I"⟩
abbrev cX8_rings : ByteArray := prog_1_method_25_code
def yX8_rings : MethodName := ⟨RX8, "rings", "(I)I"⟩
abbrev cX8_quiet : ByteArray := prog_1_method_26_code
def yX8_quiet : MethodName := ⟨RX8, "quiet", "(I)I"⟩
abbrev cX8_moves : ByteArray := prog_1_method_27_code
def yX8_moves : MethodName := ⟨RX8, "moves", "(I)I"⟩
abbrev cX8_cost : ByteArray := prog_1_method_28_code
def yX8_cost : MethodName := ⟨RX8, "cost", "(IIII)I"⟩
abbrev cX8_best : ByteArray := prog_1_method_29_code
def yX8_best : MethodName := ⟨RX8, "best", "(I)I"⟩
abbrev cX8_ahead : ByteArray := prog_1_method_30_code
def yX8_ahead : MethodName := ⟨RX8, "ahead", "(II)I"⟩
abbrev cX8_way : ByteArray := prog_1_method_31_code
def yX8_way : MethodName := ⟨RX8, "way", "(I)I"⟩
abbrev cX8_would : ByteArray := prog_1_method_32_code
def yX8_would : MethodName := ⟨RX8, "would", "(I)I"⟩
abbrev cX8_busiest : ByteArray := prog_1_method_33_code
def yX8_busiest : MethodName := ⟨RX8, "busiest", "(I)I"⟩
abbrev cX8_till : ByteArray := prog_1_method_34_code
def yX8_till : MethodName := ⟨RX8, "till", "(I)I"⟩
abbrev cX8_loudest : ByteArray := prog_1_method_35_code
def yX8_loudest : MethodName := ⟨RX8, "loudest", "(I)I"⟩
abbrev cX8_clashes : ByteArray := prog_1_method_36_code
def yX8_clashes : MethodName := ⟨RX8, "clashes", "(I)I"⟩
abbrev cX8_rung : ByteArray := prog_1_method_37_code
def yX8_rung : MethodName := ⟨RX8, "rung", "(I)I"⟩
abbrev cX8_told : ByteArray := prog_1_method_38_code
def yX8_told : MethodName := ⟨RX8, "told", "(I)I"⟩
abbrev cX8_count : ByteArray := prog_1_method_39_code
def yX8_count : MethodName := ⟨RX8, "count", "(I)I"⟩
abbrev cX8_row : ByteArray := prog_1_method_40_code
def yX8_row : MethodName := ⟨RX8, "row", "(I)J"⟩
abbrev cX8_isWithin : ByteArray := prog_1_method_41_code
def yX8_isWithin : MethodName := ⟨RX8, "isWithin", "(III)Z"⟩
abbrev cX8_isGroup : ByteArray := prog_1_method_42_code
def yX8_isGroup : MethodName := ⟨RX8, "isGroup", "(I)Z"⟩
abbrev cX8_isMultiple : ByteArray := prog_1_method_43_code
def yX8_isMultiple : MethodName := ⟨RX8, "isMultiple", "(II)Z"⟩
abbrev cX8_numberOf : ByteArray := prog_1_method_44_code
def yX8_numberOf : MethodName := ⟨RX8, "numberOf", "(LDueWheels$Timer;)I"⟩
abbrev cX8_refusalOfTicks : ByteArray := prog_1_method_45_code
def yX8_refusalOfTicks : MethodName := ⟨RX8, "refusalOfTicks", "(I)I"⟩
abbrev cX8_refusalOfLeap : ByteArray := prog_1_method_46_code
def yX8_refusalOfLeap : MethodName := ⟨RX8, "refusalOfLeap", "(I)I"⟩
abbrev cX8_keepWhatRang : ByteArray := prog_1_method_47_code
def yX8_keepWhatRang : MethodName := ⟨RX8, "keepWhatRang", "()I"⟩
abbrev cX8_tellLatest : ByteArray := prog_1_method_48_code
def yX8_tellLatest : MethodName := ⟨RX8, "tellLatest", "(IZ)V"⟩
abbrev cX8_tellLine : ByteArray := prog_1_method_49_code
def yX8_tellLine : MethodName := ⟨RX8, "tellLine", "(LDueWheels$Line;)V"⟩
abbrev cX8_tellWhatRings : ByteArray := prog_1_method_50_code
def yX8_tellWhatRings : MethodName := ⟨RX8, "tellWhatRings", "(I)V"⟩
abbrev cX8_putApart : ByteArray := prog_1_method_51_code
def yX8_putApart : MethodName := ⟨RX8, "putApart", "(LDueWheels$Line;I)I"⟩
abbrev cX8_movesBy : ByteArray := prog_1_method_52_code
def yX8_movesBy : MethodName := ⟨RX8, "movesBy", "(LDueWheels$Shape;)I"⟩
abbrev cX8_countGroups : ByteArray := prog_1_method_53_code
def yX8_countGroups : MethodName := ⟨RX8, "countGroups", "(LDueWheels$Line;[I)V"⟩
abbrev cX8_does : ByteArray := prog_1_method_54_code
def yX8_does : MethodName := ⟨RX8, "does", "(I)Z"⟩
def RX9 : String := "DueWheelsModel"
def TX9 : u_T := fun k => match k with
  | 0 => ("DueWheelsModel", "thrown", "I", false)
  | 1 => ("DueWheelsModel", "told", "I", false)
  | 2 => ("DueWheelsModel", "row", "[J", true)
  | 3 => ("DueWheelsModel", "tape", "[I", true)
  | 4 => ("DueWheelsModel", "taped", "I", false)
  | 5 => ("DueWheelsModel", "at", "I", false)
  | 6 => ("DueWheelsModel", "to", "I", false)
  | 7 => ("DueWheelsModel", "mem", "[I", true)
  | 8 => ("DueWheelsModel", "desk", "I", false)
  | 9 => ("DueWheelsModel", "line", "[I", true)
  | 10 => ("DueWheelsModel", "lineMany", "I", false)
  | 11 => ("DueWheelsModel", "heard", "[I", true)
  | 12 => ("DueWheelsModel", "heardWith", "[I", true)
  | 13 => ("DueWheelsModel", "heardMany", "I", false)
  | 14 => ("DueWheelsModel", "wish", "[I", true)
  | 15 => ("DueWheelsModel", "act", "[I", true)
  | 16 => ("DueWheelsModel", "wayClock", "[I", true)
  | 17 => ("DueWheelsModel", "wayLevel", "[I", true)
  | 18 => ("DueWheelsModel", "costFar", "I", false)
  | 19 => ("DueWheelsModel", "costMost", "I", false)
  | _ => ("DueWheelsModel", "byGroup", "[I", true)
def tyX9 : Nat → FieldType := fun k => match k with
  | 0 => .int
  | 1 => .int
  | 2 => .array .long
  | 3 => .array .int
  | 4 => .int
  | 5 => .int
  | 6 => .int
  | 7 => .array .int
  | 8 => .int
  | 9 => .array .int
  | 10 => .int
  | 11 => .array .int
  | 12 => .array .int
  | 13 => .int
  | 14 => .array .int
  | 15 => .array .int
  | 16 => .array .int
  | 17 => .array .int
  | 18 => .int
  | 19 => .int
  | _ => .array .int
abbrev wsX90 : List Cond := u_ws RX9 TX9 21
theorem nmX9 : ∀ a, a < 21 → ∀ b, b < 21 → a ≠ b → (TX9 a).2.1 ≠ (TX9 b).2.1 := by decide +kernel
theorem tyX9_ok : ∀ k, k < 21 → parseFieldDescriptor (TX9 k).2.2.1 = some (tyX9 k) := by decide +kernel
abbrev cX9_thrown : ByteArray := prog_11_method_1_code
def yX9_thrown : MethodName := ⟨RX9, "thrown", "()I"⟩
abbrev cX9_in : ByteArray := prog_11_method_2_code
def yX9_in : MethodName := ⟨RX9, "in", "(JJJ)Z"⟩
abbrev cX9_flag : ByteArray := prog_11_method_3_code
def yX9_flag : MethodName := ⟨RX9, "flag", "(Z)I"⟩
abbrev cX9_enters : ByteArray := prog_11_method_4_code
def yX9_enters : MethodName := ⟨RX9, "enters", "(J)V"⟩
abbrev cX9_sign : ByteArray := prog_11_method_5_code
def yX9_sign : MethodName := ⟨RX9, "sign", "(I)I"⟩
abbrev cX9_end : ByteArray := prog_11_method_6_code
def yX9_end : MethodName := ⟨RX9, "end", "(I)Z"⟩
abbrev cX9_takes : ByteArray := prog_11_method_7_code
def yX9_takes : MethodName := ⟨RX9, "takes", "(I)Z"⟩
abbrev cX9_isDigit : ByteArray := prog_11_method_8_code
def yX9_isDigit : MethodName := ⟨RX9, "isDigit", "()Z"⟩
abbrev cX9_number : ByteArray := prog_11_method_9_code
def yX9_number : MethodName := ⟨RX9, "number", "(III)I"⟩
abbrev cX9_init : ByteArray := prog_11_method_10_code
def yX9_init : MethodName := ⟨RX9, "<init>", "()V"⟩
abbrev cX9_of : ByteArray := prog_11_method_11_code
def yX9_of : MethodName := ⟨RX9, "of", "(I)I"⟩
abbrev cX9_puts : ByteArray := prog_11_method_12_code
def yX9_puts : MethodName := ⟨RX9, "puts", "(II)V"⟩
abbrev cX9_more : ByteArray := prog_11_method_13_code
def yX9_more : MethodName := ⟨RX9, "more", "(II)V"⟩
abbrev cX9_tries : ByteArray := prog_11_method_14_code
def yX9_tries : MethodName := ⟨RX9, "tries", "()V"⟩
abbrev cX9_isBack : ByteArray := prog_11_method_15_code
def yX9_isBack : MethodName := ⟨RX9, "isBack", "()V"⟩
abbrev cX9_isTimer : ByteArray := prog_11_method_16_code
def yX9_isTimer : MethodName := ⟨RX9, "isTimer", "(I)Z"⟩
abbrev cX9_goes : ByteArray := prog_11_method_17_code
def yX9_goes : MethodName := ⟨RX9, "goes", "(I)Z"⟩
abbrev cX9_span : ByteArray := prog_11_method_18_code
def yX9_span : MethodName := ⟨RX9, "span", "(I)I"⟩
abbrev cX9_whole : ByteArray := prog_11_method_19_code
def yX9_whole : MethodName := ⟨RX9, "whole", "()I"⟩
abbrev cX9_levelFor : ByteArray := prog_11_method_20_code
def yX9_levelFor : MethodName := ⟨RX9, "levelFor", "(I)I"⟩
abbrev cX9_lays : ByteArray := prog_11_method_21_code
def yX9_lays : MethodName := ⟨RX9, "lays", "(I)V"⟩
abbrev cX9_laysAll : ByteArray := prog_11_method_22_code
def yX9_laysAll : MethodName := ⟨RX9, "laysAll", "()V"⟩
abbrev cX9_moves1 : ByteArray := prog_11_method_23_code
def yX9_moves1 : MethodName := ⟨RX9, "moves1", "(I)V"⟩
abbrev cX9_isAhead : ByteArray := prog_11_method_24_code
def yX9_isAhead : MethodName := ⟨RX9, "isAhead", "(II)Z"⟩
abbrev cX9_queues : ByteArray := prog_11_method_25_code
def yX9_queues : MethodName := ⟨RX9, "queues", "(IZ)V"⟩
abbrev cX9_isSooner : ByteArray := prog_11_method_26_code
def yX9_isSooner : MethodName := ⟨RX9, "isSooner", "(IIZ)Z"⟩
abbrev cX9_keepsRung : ByteArray := prog_11_method_27_code
def yX9_keepsRung : MethodName := ⟨RX9, "keepsRung", "(I)V"⟩
abbrev cX9_comesAgain : ByteArray := prog_11_method_28_code
def yX9_comesAgain : MethodName := ⟨RX9, "comesAgain", "(I)V"⟩
abbrev cX9_ringsAll : ByteArray := prog_11_method_29_code
def yX9_ringsAll : MethodName := ⟨RX9, "ringsAll", "(Z)V"⟩
abbrev cX9_tick : ByteArray := prog_11_method_30_code
def yX9_tick : MethodName := ⟨RX9, "tick", "()V"⟩
abbrev cX9_tellsLatest : ByteArray := prog_11_method_31_code
def yX9_tellsLatest : MethodName := ⟨RX9, "tellsLatest", "()V"⟩
abbrev cX9_tellsFirst : ByteArray := prog_11_method_32_code
def yX9_tellsFirst : MethodName := ⟨RX9, "tellsFirst", "()V"⟩
abbrev cX9_ticksOf : ByteArray := prog_11_method_33_code
def yX9_ticksOf : MethodName := ⟨RX9, "ticksOf", "(I)I"⟩
abbrev cX9_leapsBy : ByteArray := prog_11_method_34_code
def yX9_leapsBy : MethodName := ⟨RX9, "leapsBy", "(I)I"⟩
abbrev cX9_wishes : ByteArray := prog_11_method_35_code
def yX9_wishes : MethodName := ⟨RX9, "wishes", "(IIII)I"⟩
abbrev cX9_isAsWished : ByteArray := prog_11_method_36_code
def yX9_isAsWished : MethodName := ⟨RX9, "isAsWished", "(I)Z"⟩
abbrev cX9_laysWished : ByteArray := prog_11_method_37_code
def yX9_laysWished : MethodName := ⟨RX9, "laysWished", "(I)V"⟩
abbrev cX9_wheels : ByteArray := prog_11_method_38_code
def yX9_wheels : MethodName := ⟨RX9, "wheels", "(IIII)I"⟩
abbrev cX9_order : ByteArray := prog_11_method_39_code
def yX9_order : MethodName := ⟨RX9, "order", "(I)I"⟩
abbrev cX9_ticks : ByteArray := prog_11_method_40_code
def yX9_ticks : MethodName := ⟨RX9, "ticks", "(I)I"⟩
abbrev cX9_isLeap : ByteArray := prog_11_method_41_code
def yX9_isLeap : MethodName := ⟨RX9, "isLeap", "(I)Z"⟩
abbrev cX9_leaps : ByteArray := prog_11_method_42_code
def yX9_leaps : MethodName := ⟨RX9, "leaps", "(I)I"⟩
abbrev cX9_many : ByteArray := prog_11_method_43_code
def yX9_many : MethodName := ⟨RX9, "many", "()I"⟩
abbrev cX9_setsOne : ByteArray := prog_11_method_44_code
def yX9_setsOne : MethodName := ⟨RX9, "setsOne", "(IIIII)I"⟩
abbrev cX9_sets : ByteArray := prog_11_method_45_code
def yX9_sets : MethodName := ⟨RX9, "sets", "(IIIII)I"⟩
abbrev cX9_cancelsOne : ByteArray := prog_11_method_46_code
def yX9_cancelsOne : MethodName := ⟨RX9, "cancelsOne", "(I)I"⟩
abbrev cX9_cancels : ByteArray := prog_11_method_47_code
def yX9_cancels : MethodName := ⟨RX9, "cancels", "(I)I"⟩
abbrev cX9_cancelsAll : ByteArray := prog_11_method_48_code
def yX9_cancelsAll : MethodName := ⟨RX9, "cancelsAll", "(I)I"⟩
abbrev cX9_steady : ByteArray := prog_11_method_49_code
def yX9_steady : MethodName := ⟨RX9, "steady", "(IZ)I"⟩
abbrev cX9_pauses : ByteArray := prog_11_method_50_code
def yX9_pauses : MethodName := ⟨RX9, "pauses", "(I)I"⟩
abbrev cX9_resumes : ByteArray := prog_11_method_51_code
def yX9_resumes : MethodName := ⟨RX9, "resumes", "(I)I"⟩
abbrev cX9_delays : ByteArray := prog_11_method_52_code
def yX9_delays : MethodName := ⟨RX9, "delays", "(II)I"⟩
abbrev cX9_isGroup : ByteArray := prog_11_method_53_code
def yX9_isGroup : MethodName := ⟨RX9, "isGroup", "(I)Z"⟩
abbrev cX9_pausesOne : ByteArray := prog_11_method_54_code
def yX9_pausesOne : MethodName := ⟨RX9, "pausesOne", "(I)V"⟩
abbrev cX9_resumesOne : ByteArray := prog_11_method_55_code
def yX9_resumesOne : MethodName := ⟨RX9, "resumesOne", "(I)V"⟩
abbrev cX9_holds : ByteArray := prog_11_method_56_code
def yX9_holds : MethodName := ⟨RX9, "holds", "(I)I"⟩
abbrev cX9_goesOn : ByteArray := prog_11_method_57_code
def yX9_goesOn : MethodName := ⟨RX9, "goesOn", "(I)I"⟩
abbrev cX9_spreads : ByteArray := prog_11_method_58_code
def yX9_spreads : MethodName := ⟨RX9, "spreads", "(II)I"⟩
abbrev cX9_readsAct : ByteArray := prog_11_method_59_code
def yX9_readsAct : MethodName := ⟨RX9, "readsAct", "(I)Z"⟩
abbrev cX9_doesAct : ByteArray := prog_11_method_60_code
def yX9_doesAct : MethodName := ⟨RX9, "doesAct", "(I)I"⟩
abbrev cX9_run : ByteArray := prog_11_method_61_code
def yX9_run : MethodName := ⟨RX9, "run", "()I"⟩
abbrev cX9_timer : ByteArray := prog_11_method_62_code
def yX9_timer : MethodName := ⟨RX9, "timer", "(II)I"⟩
abbrev cX9_tellsLine : ByteArray := prog_11_method_63_code
def yX9_tellsLine : MethodName := ⟨RX9, "tellsLine", "()V"⟩
abbrev cX9_slot : ByteArray := prog_11_method_64_code
def yX9_slot : MethodName := ⟨RX9, "slot", "(II)I"⟩
abbrev cX9_far : ByteArray := prog_11_method_65_code
def yX9_far : MethodName := ⟨RX9, "far", "()I"⟩
abbrev cX9_group : ByteArray := prog_11_method_66_code
def yX9_group : MethodName := ⟨RX9, "group", "(I)I"⟩
abbrev cX9_full : ByteArray := prog_11_method_67_code
def yX9_full : MethodName := ⟨RX9, "full", "(I)I"⟩
abbrev cX9_next : ByteArray := prog_11_method_68_code
def yX9_next : MethodName := ⟨RX9, "next", "()I"⟩
abbrev cX9_rings : ByteArray := prog_11_method_69_code
def yX9_rings : MethodName := ⟨RX9, "rings", "(I)I"⟩
abbrev cX9_quiet : ByteArray := prog_11_method_70_code
def yX9_quiet : MethodName := ⟨RX9, "quiet", "(I)I"⟩
abbrev cX9_ways : ByteArray := prog_11_method_71_code
def yX9_ways : MethodName := ⟨RX9, "ways", "(II)I"⟩
abbrev cX9_movesOf : ByteArray := prog_11_method_72_code
def yX9_movesOf : MethodName := ⟨RX9, "movesOf", "(I)I"⟩
abbrev cX9_moves : ByteArray := prog_11_method_73_code
def yX9_moves : MethodName := ⟨RX9, "moves", "(I)I"⟩
abbrev cX9_way : ByteArray := prog_11_method_74_code
def yX9_way : MethodName := ⟨RX9, "way", "(I)I"⟩
abbrev cX9_costOf : ByteArray := prog_11_method_75_code
def yX9_costOf : MethodName := ⟨RX9, "costOf", "(I)I"⟩
abbrev cX9_cost : ByteArray := prog_11_method_76_code
def yX9_cost : MethodName := ⟨RX9, "cost", "(IIII)I"⟩
abbrev cX9_best : ByteArray := prog_11_method_77_code
def yX9_best : MethodName := ⟨RX9, "best", "(I)I"⟩
abbrev cX9_ahead : ByteArray := prog_11_method_78_code
def yX9_ahead : MethodName := ⟨RX9, "ahead", "(II)I"⟩
abbrev cX9_would : ByteArray := prog_11_method_79_code
def yX9_would : MethodName := ⟨RX9, "would", "(I)I"⟩
abbrev cX9_busiest : ByteArray := prog_11_method_80_code
def yX9_busiest : MethodName := ⟨RX9, "busiest", "(I)I"⟩
abbrev cX9_loudest : ByteArray := prog_11_method_81_code
def yX9_loudest : MethodName := ⟨RX9, "loudest", "(I)I"⟩
abbrev cX9_clashes : ByteArray := prog_11_method_82_code
def yX9_clashes : MethodName := ⟨RX9, "clashes", "(I)I"⟩
abbrev cX9_till : ByteArray := prog_11_method_83_code
def yX9_till : MethodName := ⟨RX9, "till", "(I)I"⟩
abbrev cX9_rung : ByteArray := prog_11_method_84_code
def yX9_rung : MethodName := ⟨RX9, "rung", "(I)I"⟩
abbrev cX9_told : ByteArray := prog_11_method_85_code
def yX9_told : MethodName := ⟨RX9, "told", "(I)I"⟩
abbrev cX9_pausedMany : ByteArray := prog_11_method_86_code
def yX9_pausedMany : MethodName := ⟨RX9, "pausedMany", "()I"⟩
abbrev cX9_farMany : ByteArray := prog_11_method_87_code
def yX9_farMany : MethodName := ⟨RX9, "farMany", "()I"⟩
abbrev cX9_count : ByteArray := prog_11_method_88_code
def yX9_count : MethodName := ⟨RX9, "count", "(I)I"⟩
abbrev cX9_row : ByteArray := prog_11_method_89_code
def yX9_row : MethodName := ⟨RX9, "row", "(I)J"⟩
def RJx145de : String := "java/io/Serializable"
def TJx145de : u_T := fun k => match k with
  | _ => ("", "", "", false)
def tyJx145de : Nat → FieldType := fun k => match k with
  | _ => .int
abbrev wsJx145de0 : List Cond := u_ws RJx145de TJx145de 0
theorem nmJx145de : ∀ a, a < 0 → ∀ b, b < 0 → a ≠ b → (TJx145de a).2.1 ≠ (TJx145de b).2.1 := by decide +kernel
theorem tyJx145de_ok : ∀ k, k < 0 → parseFieldDescriptor (TJx145de k).2.2.1 = some (tyJx145de k) := by decide +kernel
def RJ9 : String := "java/lang/Math"
def TJ9 : u_T := fun k => match k with
  | _ => ("", "", "", false)
def tyJ9 : Nat → FieldType := fun k => match k with
  | _ => .int
abbrev wsJ90 : List Cond := u_ws RJ9 TJ9 0
theorem nmJ9 : ∀ a, a < 0 → ∀ b, b < 0 → a ≠ b → (TJ9 a).2.1 ≠ (TJ9 b).2.1 := by decide +kernel
theorem tyJ9_ok : ∀ k, k < 0 → parseFieldDescriptor (TJ9 k).2.2.1 = some (tyJ9 k) := by decide +kernel
abbrev cJ9_floorMod_7cf53 : ByteArray := prog_14_method_50_code
def yJ9_floorMod_7cf53 : MethodName := ⟨RJ9, "floorMod", "(II)I"⟩
abbrev cJ9_abs_0f7a4 : ByteArray := prog_14_method_59_code
def yJ9_abs_0f7a4 : MethodName := ⟨RJ9, "abs", "(I)I"⟩
abbrev cJ9_max_7cf53 : ByteArray := prog_14_method_65_code
def yJ9_max_7cf53 : MethodName := ⟨RJ9, "max", "(II)I"⟩
abbrev cJ9_min_7cf53 : ByteArray := prog_14_method_69_code
def yJ9_min_7cf53 : MethodName := ⟨RJ9, "min", "(II)I"⟩
def RJ7 : String := "java/util/Arrays"
def TJ7 : u_T := fun k => match k with
  | _ => ("", "", "", false)
def tyJ7 : Nat → FieldType := fun k => match k with
  | _ => .int
abbrev wsJ70 : List Cond := u_ws RJ7 TJ7 0
theorem nmJ7 : ∀ a, a < 0 → ∀ b, b < 0 → a ≠ b → (TJ7 a).2.1 ≠ (TJ7 b).2.1 := by decide +kernel
theorem tyJ7_ok : ∀ k, k < 0 → parseFieldDescriptor (TJ7 k).2.2.1 = some (tyJ7 k) := by decide +kernel
abbrev cJ7_fill_53178 : ByteArray := prog_17_method_103_code
def yJ7_fill_53178 : MethodName := ⟨RJ7, "fill", "([II)V"⟩
def RL : String := "DueWheelsLaw"
abbrev cL_timer : ByteArray := method_3_code
def yL_timer : MethodName := ⟨RL, "timer", "(LDueWheels;II[J)I"⟩
abbrev cL_row : ByteArray := method_4_code
def yL_row : MethodName := ⟨RL, "row", "(LDueWheels;I[J)I"⟩
abbrev cL_law : ByteArray := code
def yL_law : MethodName := ⟨RL, "law", "([I)Z"⟩
abbrev vwCl : List vw_C := [(RX0, TX0, 8), (RX1, TX1, 2), (RX2, TX2, 8), (RX3, TX3, 2), (RX4, TX4, 4), (RX5, TX5, 2), (RX6, TX6, 15), (RX7, TX7, 7), (RX8, TX8, 12), (RX9, TX9, 21)]
end
section
/-! OUR OWN JUDGEMENT: the world is a fixed set of cells; what they hold is a memory of ints, longs and timers' references by (place, slot); V is W over that memory. -/
def gw : List Cond := lw_tbl.filter goodWord
theorem gw_good {w : Cond} (h : w ∈ gw) : (w.onTables && w.keeps) = true ∨ ∃ ty, w = .arrayClass ty := good_of_word (List.mem_filter.mp h).2
theorem gw_of {w : Cond} (h : w ∈ lw_tbl) (hg : goodWord w = true) : w ∈ gw := List.mem_filter.mpr ⟨h, hg⟩
theorem gw_at {w : Cond} (i : Nat) (h : tables_1[i]? = some w) (hg : goodWord w = true) : w ∈ gw := gw_of (List.mem_append_right _ (List.mem_of_getElem? h)) hg
theorem gw_pr {w : Cond} (i : Nat) (h : (k2_sels lw_privs)[i]? = some w) (hg : goodWord w = true) : w ∈ gw := gw_of (List.mem_append_left _ (List.mem_of_getElem? h)) hg
/-- the memory: ints (booleans too), longs, references of the lines -/
abbrev Mm : Type := (Nat → Nat → Int32) × (Nat → Nat → Int64) × (Nat → Nat → Option Nat)
def up2 {α : Type} (f : Nat → Nat → α) (a j : Nat) (v : α) : Nat → Nat → α := fun x y => if x = a ∧ y = j then v else f x y
theorem up2_self {α : Type} (f : Nat → Nat → α) (a j : Nat) (v : α) : up2 f a j v a j = v := by simp [up2]
theorem up2_ne {α : Type} (f : Nat → Nat → α) {a j x y : Nat} (v : α) (h : x ≠ a ∨ y ≠ j) : up2 f a j v x y = f x y := by
  unfold up2
  split
  · next q => exact absurd q (by rintro ⟨q1, q2⟩; rcases h with h | h <;> contradiction)
  · rfl
def wI (σ : Mm) (a j : Nat) (v : Int32) : Mm := (up2 σ.1 a j v, σ.2)
def wL (σ : Mm) (a j : Nat) (v : Int64) : Mm := (σ.1, up2 σ.2.1 a j v, σ.2.2)
def wT (σ : Mm) (a j : Nat) (v : Option Nat) : Mm := (σ.1, σ.2.1, up2 σ.2.2 a j v)
/-- the shape: which places there are, their kinds (0 .. 9 objects, 10 ints, 11 longs, 12 a line's row, 13 a row of timers that stays), lengths, references that stay -/
abbrev Sh : Type := List Nat × (Nat → Nat) × (Nat → Nat) × (Nat → Nat → Option Nat)
/-- the launch, the first address of ours, addresses of places and back, classes, slots -/
abbrev Wp : Type := Launch × Nat × (Nat → Nat) × (Nat → Nat) × va_G × ClassId × ClassId × ClassId
abbrev Wp.l (w : Wp) : Launch := w.1
abbrev Wp.B (w : Wp) : Nat := w.2.1
abbrev Wp.ad (w : Wp) : Nat → Nat := w.2.2.1
abbrev Wp.un (w : Wp) : Nat → Nat := w.2.2.2.1
abbrev Wp.D (w : Wp) : va_G := w.2.2.2.2.1
abbrev Wp.ty (w : Wp) : List (ClassId × FieldType) := [(w.2.2.2.2.2.1, .int), (w.2.2.2.2.2.2.1, .long), (w.2.2.2.2.2.2.2, .object RX6)]
def nf (k : Nat) : Nat := match k with
  | 0 => 8 | 1 => 2 | 2 => 8 | 3 => 2 | 4 => 4 | 5 => 2 | 6 => 15 | 7 => 7 | 8 => 12 | 9 => 21 | _ => 0
def RXn (k : Nat) : String := match k with
  | 0 => RX0 | 1 => RX1 | 2 => RX2 | 3 => RX3 | 4 => RX4 | 5 => RX5 | 6 => RX6 | 7 => RX7 | 8 => RX8 | _ => RX9
def TXn (k : Nat) : u_T := match k with
  | 0 => TX0 | 1 => TX1 | 2 => TX2 | 3 => TX3 | 4 => TX4 | 5 => TX5 | 6 => TX6 | 7 => TX7 | 8 => TX8 | _ => TX9
def tyXn (k : Nat) : Nat → FieldType := match k with
  | 0 => tyX0 | 1 => tyX1 | 2 => tyX2 | 3 => tyX3 | 4 => tyX4 | 5 => tyX5 | 6 => tyX6 | 7 => tyX7 | 8 => tyX8 | _ => tyX9
def cvv (w : Wp) (v : Value) : Value := match v with
  | .ref a => .ref (w.ad a)
  | v => v
def cvl (w : Wp) (q : Nat × Value) : Nat × Value := (q.1, cvv w q.2)
def fvv (S : Sh) (w : Wp) (σ : Mm) (a j : Nat) : Value := match S.2.2.2 a j with
  | some t => .ref (w.ad t)
  | none => .int (σ.1 a j)
def trr (S : Sh) (σ : Mm) (a j : Nat) : Option Nat := if S.2.1 a = 12 then σ.2.2 a j else some (a + 3 + j)
def cll (S : Sh) (w : Wp) (σ : Mm) (a : Nat) : va_E :=
  if S.2.1 a < 10 then .inr (S.2.1 a, (List.range (nf (S.2.1 a))).map (fvv S w σ a))
  else if S.2.1 a = 10 then .inl (w.2.2.2.2.2.1, S.2.2.1 a, .inl (σ.1 a))
  else if S.2.1 a = 11 then .inl (w.2.2.2.2.2.2.1, S.2.2.1 a, .inr (.inl (σ.2.1 a)))
  else .inl (w.2.2.2.2.2.2.2, S.2.2.1 a, .inr (.inr (.inr (.inr (fun j => (trr S σ a j).map w.ad)))))
def Wws (S : Sh) (w : Wp) (σ : Mm) : va_W := va_pl (S.1.map w.ad) (fun c => cll S w σ (w.un c))
def WH (S : Sh) (w : Wp) (σ : Mm) (H : Heap) : Prop := va_P w.D vwCl (Wws S w σ) H
/-- shape and addresses fit -/
def Fit (S : Sh) (w : Wp) : Prop := S.1.Nodup ∧ (∀ a, S.2.1 a < 14 → a ∈ S.1) ∧ ∀ a ∈ S.1, w.un (w.ad a) = a ∧ w.B ≤ w.ad a
def Aw (w : Wp) : Nat → Prop := fun q => w.B ≤ q
theorem Wws_get {S : Sh} {w : Wp} (hf : Fit S w) (σ : Mm) {a : Nat} (ha : a ∈ S.1) : ∃ k : Nat, (Wws S w σ)[k]? = some (w.ad a, cll S w σ a) := by
  obtain ⟨k, hk⟩ := va_pl_get (X := []) (L := S.1.map w.ad) (f := fun c => cll S w σ (w.un c)) (List.mem_map.mpr ⟨a, ha, rfl⟩)
  refine ⟨k, ?_⟩
  have hk' : (va_pl (S.1.map w.ad) (fun c => cll S w σ (w.un c)))[k]? = some (w.ad a, cll S w σ (w.un (w.ad a))) := hk
  rw [(hf.2.2 a ha).1] at hk'
  exact hk'
theorem Wws_inj {S : Sh} {w : Wp} (hf : Fit S w) {a b : Nat} (ha : a ∈ S.1) (hb : b ∈ S.1) (h : w.ad a = w.ad b) : a = b := by
  rw [← (hf.2.2 a ha).1, h, (hf.2.2 b hb).1]
theorem Wws_D {S : Sh} {w : Wp} (hf : Fit S w) (σ : Mm) : va_D (Aw w) (Wws S w σ) := by
  have key : ∀ (k : Nat) (q : Nat × va_E), (Wws S w σ)[k]? = some q → ∃ a, S.1[k]? = some a ∧ q.1 = w.ad a := by
    intro k q hk
    unfold Wws va_pl at hk
    rw [List.getElem?_map, List.getElem?_map] at hk
    cases hs : S.1[k]? with
    | none => rw [hs] at hk; cases hk
    | some a => rw [hs] at hk; cases hk; exact ⟨a, rfl, rfl⟩
  refine ⟨fun i j p q hi hj hpq => ?_, fun k q hk => ?_⟩
  · obtain ⟨a, ha, ea⟩ := key i p hi
    obtain ⟨b, hb, eb⟩ := key j q hj
    have hab : a = b := Wws_inj hf (List.mem_of_getElem? ha) (List.mem_of_getElem? hb) (by rw [← ea, ← eb]; exact hpq)
    subst hab
    have hi' := (List.getElem?_eq_some_iff.mp ha).1
    exact (List.getElem?_inj hi' hf.1).mp (ha.trans hb.symm)
  · obtain ⟨a, ha, ea⟩ := key k q hk
    show w.B ≤ q.1
    rw [ea]
    exact (hf.2.2 a (List.mem_of_getElem? ha)).2
/-- a cell that changes: the world with it is the new memory's -/
theorem Wws_set {S : Sh} {w : Wp} (hf : Fit S w) {σ σ' : Mm} {a k : Nat} (ha : a ∈ S.1) (hk : (Wws S w σ)[k]? = some (w.ad a, cll S w σ a)) (ho : ∀ b, b ≠ a → cll S w σ' b = cll S w σ b) : (Wws S w σ).set k (w.ad a, cll S w σ' a) = Wws S w σ' := by
  have hD := Wws_D hf σ
  have hk2 : ([] ++ va_pl (S.1.map w.ad) (fun c => cll S w σ (w.un c)))[k]? = some (w.ad a, (fun c => cll S w σ (w.un c)) (w.ad a)) := by
    show (Wws S w σ)[k]? = some (w.ad a, cll S w σ (w.un (w.ad a)))
    rw [(hf.2.2 a ha).1]
    exact hk
  have h := va_pl_set (X := []) (e := cll S w σ' a) hD (List.mem_map.mpr ⟨a, ha, rfl⟩) hk2
  refine Eq.trans h ?_
  show va_pl _ _ = va_pl _ _
  unfold va_pl
  rw [List.map_map, List.map_map]
  apply List.map_congr_left
  intro b hb
  show (w.ad b, va_up _ (w.ad a) _ (w.ad b)) = (w.ad b, cll S w σ' (w.un (w.ad b)))
  rw [(hf.2.2 b hb).1]
  by_cases hab : b = a
  · subst hab
    rw [va_up_self]
  · rw [va_up_ne _ _ (fun q => hab (Wws_inj hf hb ha q))]
    show (w.ad b, cll S w σ (w.un (w.ad b))) = _
    rw [(hf.2.2 b hb).1, ho b hab]
/-- the method's fixed part: program, env, room, start, itself, arguments, frames below, final predicate -/
abbrev Cx : Type := Program × Env × Room × State × MethodId × Array Value × List Frame × Method × Code × (State → Prop)
abbrev Cx.p (x : Cx) : Program := x.1
abbrev Cx.e (x : Cx) : Env := x.2.1
abbrev Cx.R (x : Cx) : Room := x.2.2.1
abbrev Cx.s (x : Cx) : State := x.2.2.2.1
abbrev Cx.m (x : Cx) : MethodId := x.2.2.2.2.1
abbrev Cx.a (x : Cx) : Array Value := x.2.2.2.2.2.1
abbrev Cx.b (x : Cx) : List Frame := x.2.2.2.2.2.2.1
abbrev Cx.me (x : Cx) : Method := x.2.2.2.2.2.2.2.1
abbrev Cx.c (x : Cx) : Code := x.2.2.2.2.2.2.2.2.1
abbrev Cx.F (x : Cx) : State → Prop := x.2.2.2.2.2.2.2.2.2
/-- the words of links to nest mates -/
def isNest (w : Cond) : Prop := ∃ a i y h, w = .methodLinkNest a i y h
def nws : List Cond := lw_tbl.filter (fun w => match w with | .methodLinkNest _ _ _ _ => true | _ => false)
theorem nws_nest {w : Cond} (h : w ∈ nws) : isNest w := by
  have h2 := (List.mem_filter.mp h).2
  cases w <;> first | exact ⟨_, _, _, _, rfl⟩ | (exact absurd h2 (by simp))
abbrev Md : Type := MethodName × ByteArray × Nat × Option FieldType
def Ok (S : Sh) (w : Wp) (x : Cx) (own : String) (M : Md) : Prop := Fit S w ∧ CallFix x.p x.m x.c M.2.1 M.2.2.1 x.s x.a gw own ∧ va_K w.D vwCl w.ty x.s ∧ ∀ n ∈ nws, va_Nw n x.s
/-- at pc, with locals, stack and memory: the machine comes to its end -/
def V (S : Sh) (w : Wp) (x : Cx) (M : Md) (cn : Nat × Nat) (pc : Nat) (ls : List (Nat × Value)) (st : List Value) (σ : Mm) : Prop :=
  ∀ (H : Heap) (locs : List Loc) (la : Array Slot), WH S w σ H → va_S (Aw w) x.s.heap H locs → lv_has la M.2.2.1 (ls.map (cvl w)) → W x.p w.l x.e x.R x.s x.m x.a x.b x.me x.c H locs cn.1 cn.2 x.F (F0 x.m pc la (st.map (cvv w)))
def st1 (ls : List (Nat × Value)) (i : Nat) (v : Value) : List (Nat × Value) := (i, v) :: ls.filter (fun q => !(q.1 == i) && !(q.1 + 1 == i && q.2.category == 2))
def st2 (ls : List (Nat × Value)) (i : Nat) (v : Value) : List (Nat × Value) := (i, v) :: ls.filter (fun q => !(q.1 == i) && (!(q.1 == i + 1) && !(q.1 + 1 == i && q.2.category == 2)))
theorem cvv_cat (w : Wp) (v : Value) : (cvv w v).category = v.category := by cases v <;> rfl
theorem st1_map (w : Wp) (ls : List (Nat × Value)) (i : Nat) (v : Value) : (st1 ls i v).map (cvl w) = (i, cvv w v) :: (ls.map (cvl w)).filter (fun q => !(q.1 == i) && !(q.1 + 1 == i && q.2.category == 2)) := by
  show cvl w (i, v) :: _ = _
  congr 1
  rw [List.filter_map]
  congr 1
  apply List.filter_congr
  intro q _
  simp [cvl, cvv_cat]
theorem st2_map (w : Wp) (ls : List (Nat × Value)) (i : Nat) (v : Value) : (st2 ls i v).map (cvl w) = (i, cvv w v) :: (ls.map (cvl w)).filter (fun q => !(q.1 == i) && (!(q.1 == i + 1) && !(q.1 + 1 == i && q.2.category == 2))) := by
  show cvl w (i, v) :: _ = _
  congr 1
  rw [List.filter_map]
  congr 1
  apply List.filter_congr
  intro q _
  simp [cvl, cvv_cat]
theorem lkp_mem : ∀ {ls : List (Nat × Value)} {i : Nat} {v : Value}, ls.lookup i = some v → (i, v) ∈ ls
  | [], _, _, h => by cases h
  | (j, u) :: r, i, v, h => by
    unfold List.lookup at h
    split at h
    · next q => cases h; have := eq_of_beq q; subst this; exact List.mem_cons_self
    · exact List.mem_cons_of_mem _ (lkp_mem h)
theorem lkp_at {w : Wp} {la : Array Slot} {n : Nat} {ls : List (Nat × Value)} {i : Nat} {v : Value} (h : lv_has la n (ls.map (cvl w))) (hl : ls.lookup i = some v) : la[i]? = some (.val (cvv w v)) :=
  h.2.2 (i, cvv w v) (List.mem_map.mpr ⟨(i, v), lkp_mem hl, rfl⟩)
theorem lkp_ix {w : Wp} {ls : List (Nat × Value)} {i : Nat} {v : Value} (hl : ls.lookup i = some v) : ∃ k : Nat, (ls.map (cvl w))[k]? = some (i, cvv w v) :=
  List.getElem?_of_mem (List.mem_map.mpr ⟨(i, v), lkp_mem hl, rfl⟩)
end
section
section ROWS
variable {S : Sh} {w : Wp} {x : Cx} {own : String} {M : Md} {cn : Nat × Nat} {pc : Nat} {ls : List (Nat × Value)} {st : List Value} {σ : Mm}
theorem V_iconst {n : Int} {v : Int32} (o : Ok S w x own M) (hd : decode M.2.1 pc = .ok (.iconst n, 1)) (hv : Int32.ofInt n = v) (k : V S w x M cn (pc + 1) ls (.int v :: st) σ) : V S w x M cn pc ls (st) σ := fun H locs la h1 h2 h3 => lv_iconst o.2.1.1 o.2.1.2.1 hd hv (k H locs la h1 h2 h3)
theorem V_bipush {n : Int} {v : Int32} (o : Ok S w x own M) (hd : decode M.2.1 pc = .ok (.bipush n, 2)) (hv : (Int8.ofInt n).toInt32 = v) (k : V S w x M cn (pc + 2) ls (.int v :: st) σ) : V S w x M cn pc ls (st) σ := fun H locs la h1 h2 h3 => lv_bipush o.2.1.1 o.2.1.2.1 hd hv (k H locs la h1 h2 h3)
theorem V_sipush {n : Int} {v : Int32} (o : Ok S w x own M) (hd : decode M.2.1 pc = .ok (.sipush n, 3)) (hv : (Int16.ofInt n).toInt32 = v) (k : V S w x M cn (pc + 3) ls (.int v :: st) σ) : V S w x M cn pc ls (st) σ := fun H locs la h1 h2 h3 => lv_sipush o.2.1.1 o.2.1.2.1 hd hv (k H locs la h1 h2 h3)
theorem V_lconst {n : Fin 2} {v : Int64} (o : Ok S w x own M) (hd : decode M.2.1 pc = .ok (.lconst n, 1)) (hv : Int64.ofNat (n : Nat) = v) (k : V S w x M cn (pc + 1) ls (.long v :: st) σ) : V S w x M cn pc ls (st) σ := fun H locs la h1 h2 h3 => lv_lconst o.2.1.1 o.2.1.2.1 hd hv (k H locs la h1 h2 h3)
theorem V_null  (o : Ok S w x own M) (hd : decode M.2.1 pc = .ok (.aconst_null, 1)) (k : V S w x M cn (pc + 1) ls (.null :: st) σ) : V S w x M cn pc ls (st) σ := fun H locs la h1 h2 h3 => lv_null o.2.1.1 o.2.1.2.1 hd (k H locs la h1 h2 h3)
theorem V_ldc {idx : Nat} {v : Int32} (o : Ok S w x own M) (hd : decode M.2.1 pc = .ok (.ldc idx, 2)) (hc : Cond.constant own idx v ∈ gw) (k : V S w x M cn (pc + 2) ls (.int v :: st) σ) : V S w x M cn pc ls (st) σ := fun H locs la h1 h2 h3 => lv_ldc o.2.1.1 o.2.1.2.1 o.2.1.2.2.2.1 (o.2.1.2.2.2.2 _ hc) hd (k H locs la h1 h2 h3)
theorem V_ldcw {idx : Nat} {v : Int32} (o : Ok S w x own M) (hd : decode M.2.1 pc = .ok (.ldc_w idx, 3)) (hc : Cond.constant own idx v ∈ gw) (k : V S w x M cn (pc + 3) ls (.int v :: st) σ) : V S w x M cn pc ls (st) σ := fun H locs la h1 h2 h3 => lv_ldcw o.2.1.1 o.2.1.2.1 o.2.1.2.2.2.1 (o.2.1.2.2.2.2 _ hc) hd (k H locs la h1 h2 h3)
theorem V_ldc2 {idx : Nat} {v : Int64} (o : Ok S w x own M) (hd : decode M.2.1 pc = .ok (.ldc2_w idx, 3)) (hc : Cond.constantLong own idx v ∈ gw) (k : V S w x M cn (pc + 3) ls (.long v :: st) σ) : V S w x M cn pc ls (st) σ := fun H locs la h1 h2 h3 => lv_ldc2 o.2.1.1 o.2.1.2.1 o.2.1.2.2.2.1 (o.2.1.2.2.2.2 _ hc) hd (k H locs la h1 h2 h3)
theorem V_iload_n {n : Fin 4} {i : Nat} {v : Int32} (o : Ok S w x own M) (hd : decode M.2.1 pc = .ok (.iload_n n, 1)) (hi : (n : Nat) = i) (hl : ls.lookup i = some (.int v)) (k : V S w x M cn (pc + 1) ls (.int v :: st) σ) : V S w x M cn pc ls (st) σ := fun H locs la h1 h2 h3 => lv_iload_n o.2.1.1 o.2.1.2.1 hd hi (lkp_at h3 hl) (k H locs la h1 h2 h3)
theorem V_iload {i : Nat} {v : Int32} (o : Ok S w x own M) (hd : decode M.2.1 pc = .ok (.iload i, 2)) (hl : ls.lookup i = some (.int v)) (k : V S w x M cn (pc + 2) ls (.int v :: st) σ) : V S w x M cn pc ls (st) σ := fun H locs la h1 h2 h3 => lv_iload o.2.1.1 o.2.1.2.1 hd (lkp_at h3 hl) (k H locs la h1 h2 h3)
theorem V_aload_n {n : Fin 4} {i : Nat} {v : Nat} (o : Ok S w x own M) (hd : decode M.2.1 pc = .ok (.aload_n n, 1)) (hi : (n : Nat) = i) (hl : ls.lookup i = some (.ref v)) (k : V S w x M cn (pc + 1) ls (.ref v :: st) σ) : V S w x M cn pc ls (st) σ := fun H locs la h1 h2 h3 => lv_aload_n o.2.1.1 o.2.1.2.1 hd hi (lkp_at h3 hl) (k H locs la h1 h2 h3)
theorem V_aload {i : Nat} {v : Nat} (o : Ok S w x own M) (hd : decode M.2.1 pc = .ok (.aload i, 2)) (hl : ls.lookup i = some (.ref v)) (k : V S w x M cn (pc + 2) ls (.ref v :: st) σ) : V S w x M cn pc ls (st) σ := fun H locs la h1 h2 h3 => lv_aload o.2.1.1 o.2.1.2.1 hd (lkp_at h3 hl) (k H locs la h1 h2 h3)
theorem V_lload_n {n : Fin 4} {i : Nat} {v : Int64} (o : Ok S w x own M) (hd : decode M.2.1 pc = .ok (.lload_n n, 1)) (hi : (n : Nat) = i) (hl : ls.lookup i = some (.long v)) (k : V S w x M cn (pc + 1) ls (.long v :: st) σ) : V S w x M cn pc ls (st) σ := fun H locs la h1 h2 h3 => lv_lload_n o.2.1.1 o.2.1.2.1 hd hi (lkp_at h3 hl) (k H locs la h1 h2 h3)
theorem V_lload {i : Nat} {v : Int64} (o : Ok S w x own M) (hd : decode M.2.1 pc = .ok (.lload i, 2)) (hl : ls.lookup i = some (.long v)) (k : V S w x M cn (pc + 2) ls (.long v :: st) σ) : V S w x M cn pc ls (st) σ := fun H locs la h1 h2 h3 => lv_lload o.2.1.1 o.2.1.2.1 hd (lkp_at h3 hl) (k H locs la h1 h2 h3)
theorem V_aload_nN {n : Fin 4} {i : Nat} (o : Ok S w x own M) (hd : decode M.2.1 pc = .ok (.aload_n n, 1)) (hi : (n : Nat) = i) (hl : ls.lookup i = some .null) (k : V S w x M cn (pc + 1) ls (.null :: st) σ) : V S w x M cn pc ls (st) σ := fun H locs la h1 h2 h3 => lv_aload_nN o.2.1.1 o.2.1.2.1 hd hi (lkp_at h3 hl) (k H locs la h1 h2 h3)
theorem V_aloadN {i : Nat} (o : Ok S w x own M) (hd : decode M.2.1 pc = .ok (.aload i, 2)) (hl : ls.lookup i = some .null) (k : V S w x M cn (pc + 2) ls (.null :: st) σ) : V S w x M cn pc ls (st) σ := fun H locs la h1 h2 h3 => lv_aloadN o.2.1.1 o.2.1.2.1 hd (lkp_at h3 hl) (k H locs la h1 h2 h3)
theorem V_astore_nN {n : Fin 4} {i : Nat} {ls' : List (Nat × Value)} (o : Ok S w x own M) (hd : decode M.2.1 pc = .ok (.astore_n n, 1)) (hi : (n : Nat) = i) (hn : i < M.2.2.1) (hs : st1 ls i .null = ls') (k : V S w x M cn (pc + 1) ls' (st) σ) : V S w x M cn pc ls (.null :: st) σ := fun H locs la h1 h2 h3 => lv_astore_nN o.2.1.1 o.2.1.2.1 hd hi h3 hn (st1_map w ls i .null).symm (fun la' h' => k H locs la' h1 h2 (hs ▸ h'))
theorem V_astoreN {i : Nat} {ls' : List (Nat × Value)} (o : Ok S w x own M) (hd : decode M.2.1 pc = .ok (.astore i, 2)) (hn : i < M.2.2.1) (hs : st1 ls i .null = ls') (k : V S w x M cn (pc + 2) ls' (st) σ) : V S w x M cn pc ls (.null :: st) σ := fun H locs la h1 h2 h3 => lv_astoreN o.2.1.1 o.2.1.2.1 hd h3 hn (st1_map w ls i .null).symm (fun la' h' => k H locs la' h1 h2 (hs ▸ h'))
theorem V_istore_n {n : Fin 4} {i : Nat} {v : Int32} {ls' : List (Nat × Value)} (o : Ok S w x own M) (hd : decode M.2.1 pc = .ok (.istore_n n, 1)) (hi : (n : Nat) = i) (hn : i < M.2.2.1) (hs : st1 ls i (.int v) = ls') (k : V S w x M cn (pc + 1) ls' (st) σ) : V S w x M cn pc ls (.int v :: st) σ := fun H locs la h1 h2 h3 => lv_istore_n o.2.1.1 o.2.1.2.1 hd hi h3 hn (st1_map w ls i (.int v)).symm (fun la' h' => k H locs la' h1 h2 (hs ▸ h'))
theorem V_istore {i : Nat} {v : Int32} {ls' : List (Nat × Value)} (o : Ok S w x own M) (hd : decode M.2.1 pc = .ok (.istore i, 2)) (hn : i < M.2.2.1) (hs : st1 ls i (.int v) = ls') (k : V S w x M cn (pc + 2) ls' (st) σ) : V S w x M cn pc ls (.int v :: st) σ := fun H locs la h1 h2 h3 => lv_istore o.2.1.1 o.2.1.2.1 hd h3 hn (st1_map w ls i (.int v)).symm (fun la' h' => k H locs la' h1 h2 (hs ▸ h'))
theorem V_astore_n {n : Fin 4} {i : Nat} {v : Nat} {ls' : List (Nat × Value)} (o : Ok S w x own M) (hd : decode M.2.1 pc = .ok (.astore_n n, 1)) (hi : (n : Nat) = i) (hn : i < M.2.2.1) (hs : st1 ls i (.ref v) = ls') (k : V S w x M cn (pc + 1) ls' (st) σ) : V S w x M cn pc ls (.ref v :: st) σ := fun H locs la h1 h2 h3 => lv_astore_n o.2.1.1 o.2.1.2.1 hd hi h3 hn (st1_map w ls i (.ref v)).symm (fun la' h' => k H locs la' h1 h2 (hs ▸ h'))
theorem V_astore {i : Nat} {v : Nat} {ls' : List (Nat × Value)} (o : Ok S w x own M) (hd : decode M.2.1 pc = .ok (.astore i, 2)) (hn : i < M.2.2.1) (hs : st1 ls i (.ref v) = ls') (k : V S w x M cn (pc + 2) ls' (st) σ) : V S w x M cn pc ls (.ref v :: st) σ := fun H locs la h1 h2 h3 => lv_astore o.2.1.1 o.2.1.2.1 hd h3 hn (st1_map w ls i (.ref v)).symm (fun la' h' => k H locs la' h1 h2 (hs ▸ h'))
theorem V_lstore {i : Nat} {v : Int64} {ls' : List (Nat × Value)} (o : Ok S w x own M) (hd : decode M.2.1 pc = .ok (.lstore i, 2)) (hn : i + 1 < M.2.2.1) (hs : st2 ls i (.long v) = ls') (k : V S w x M cn (pc + 2) ls' (st) σ) : V S w x M cn pc ls (.long v :: st) σ := fun H locs la h1 h2 h3 => lv_lstore o.2.1.1 o.2.1.2.1 hd h3 hn (st2_map w ls i (.long v)).symm (fun la' h' => k H locs la' h1 h2 (hs ▸ h'))
theorem V_iinc {i : Nat} {n : Int} {u : Int32} {ls' : List (Nat × Value)} (o : Ok S w x own M) (hd : decode M.2.1 pc = .ok (.iinc i n, 3)) (hl : ls.lookup i = some (.int u)) (hn : i < M.2.2.1) (hs : st1 ls i (.int (u + Int32.ofInt n)) = ls') (k : V S w x M cn (pc + 3) ls' (st) σ) : V S w x M cn pc ls st σ := fun H locs la h1 h2 h3 => by
  obtain ⟨q, hq⟩ := lkp_ix (w := w) hl
  exact lv_iinc o.2.1.1 o.2.1.2.1 hd h3 hq rfl hn (st1_map w ls i (.int (u + Int32.ofInt n))).symm (fun la' h' => k H locs la' h1 h2 (hs ▸ h'))
theorem V_iadd {a b : Int32} (o : Ok S w x own M) (hd : decode M.2.1 pc = .ok (.iadd, 1)) (k : V S w x M cn (pc + 1) ls (.int (a + b) :: st) σ) : V S w x M cn pc ls (.int b :: .int a :: st) σ := fun H locs la h1 h2 h3 => lv_iadd o.2.1.1 o.2.1.2.1 hd (k H locs la h1 h2 h3)
theorem V_isub {a b : Int32} (o : Ok S w x own M) (hd : decode M.2.1 pc = .ok (.isub, 1)) (k : V S w x M cn (pc + 1) ls (.int (a - b) :: st) σ) : V S w x M cn pc ls (.int b :: .int a :: st) σ := fun H locs la h1 h2 h3 => lv_isub o.2.1.1 o.2.1.2.1 hd (k H locs la h1 h2 h3)
theorem V_imul {a b : Int32} (o : Ok S w x own M) (hd : decode M.2.1 pc = .ok (.imul, 1)) (k : V S w x M cn (pc + 1) ls (.int (a * b) :: st) σ) : V S w x M cn pc ls (.int b :: .int a :: st) σ := fun H locs la h1 h2 h3 => lv_imul o.2.1.1 o.2.1.2.1 hd (k H locs la h1 h2 h3)
theorem V_iand {a b : Int32} (o : Ok S w x own M) (hd : decode M.2.1 pc = .ok (.iand, 1)) (k : V S w x M cn (pc + 1) ls (.int (a &&& b) :: st) σ) : V S w x M cn pc ls (.int b :: .int a :: st) σ := fun H locs la h1 h2 h3 => lv_iand o.2.1.1 o.2.1.2.1 hd (k H locs la h1 h2 h3)
theorem V_ior {a b : Int32} (o : Ok S w x own M) (hd : decode M.2.1 pc = .ok (.ior, 1)) (k : V S w x M cn (pc + 1) ls (.int (a ||| b) :: st) σ) : V S w x M cn pc ls (.int b :: .int a :: st) σ := fun H locs la h1 h2 h3 => lv_ior o.2.1.1 o.2.1.2.1 hd (k H locs la h1 h2 h3)
theorem V_ixor {a b : Int32} (o : Ok S w x own M) (hd : decode M.2.1 pc = .ok (.ixor, 1)) (k : V S w x M cn (pc + 1) ls (.int (a ^^^ b) :: st) σ) : V S w x M cn pc ls (.int b :: .int a :: st) σ := fun H locs la h1 h2 h3 => lv_ixor o.2.1.1 o.2.1.2.1 hd (k H locs la h1 h2 h3)
theorem V_ishl {a b : Int32} (o : Ok S w x own M) (hd : decode M.2.1 pc = .ok (.ishl, 1)) (k : V S w x M cn (pc + 1) ls (.int (a <<< (b &&& 31)) :: st) σ) : V S w x M cn pc ls (.int b :: .int a :: st) σ := fun H locs la h1 h2 h3 => lv_ishl o.2.1.1 o.2.1.2.1 hd (k H locs la h1 h2 h3)
theorem V_ishr {a b : Int32} (o : Ok S w x own M) (hd : decode M.2.1 pc = .ok (.ishr, 1)) (k : V S w x M cn (pc + 1) ls (.int (a >>> (b &&& 31)) :: st) σ) : V S w x M cn pc ls (.int b :: .int a :: st) σ := fun H locs la h1 h2 h3 => lv_ishr o.2.1.1 o.2.1.2.1 hd (k H locs la h1 h2 h3)
theorem V_iushr {a b : Int32} (o : Ok S w x own M) (hd : decode M.2.1 pc = .ok (.iushr, 1)) (k : V S w x M cn (pc + 1) ls (.int (a.toUInt32 >>> (b.toUInt32 &&& Int32.toUInt32 31)).toInt32 :: st) σ) : V S w x M cn pc ls (.int b :: .int a :: st) σ := fun H locs la h1 h2 h3 => lv_iushr o.2.1.1 o.2.1.2.1 hd rfl (k H locs la h1 h2 h3)
theorem V_ineg {a : Int32} (o : Ok S w x own M) (hd : decode M.2.1 pc = .ok (.ineg, 1)) (k : V S w x M cn (pc + 1) ls (.int (-a) :: st) σ) : V S w x M cn pc ls (.int a :: st) σ := fun H locs la h1 h2 h3 => lv_ineg o.2.1.1 o.2.1.2.1 hd (k H locs la h1 h2 h3)
theorem V_idiv {a b : Int32} (o : Ok S w x own M) (hd : decode M.2.1 pc = .ok (.idiv, 1)) (hb : ¬ b = 0) (k : V S w x M cn (pc + 1) ls (.int (a / b) :: st) σ) : V S w x M cn pc ls (.int b :: .int a :: st) σ := fun H locs la h1 h2 h3 => lv_idiv o.2.1.1 o.2.1.2.1 hd hb (k H locs la h1 h2 h3)
theorem V_irem {a b : Int32} (o : Ok S w x own M) (hd : decode M.2.1 pc = .ok (.irem, 1)) (hb : ¬ b = 0) (k : V S w x M cn (pc + 1) ls (.int (a - a / b * b) :: st) σ) : V S w x M cn pc ls (.int b :: .int a :: st) σ := fun H locs la h1 h2 h3 => lv_irem o.2.1.1 o.2.1.2.1 hd hb (k H locs la h1 h2 h3)
theorem V_ladd {a b : Int64} (o : Ok S w x own M) (hd : decode M.2.1 pc = .ok (.ladd, 1)) (k : V S w x M cn (pc + 1) ls (.long (a + b) :: st) σ) : V S w x M cn pc ls (.long b :: .long a :: st) σ := fun H locs la h1 h2 h3 => lv_ladd o.2.1.1 o.2.1.2.1 hd (k H locs la h1 h2 h3)
theorem V_i2l {a : Int32} (o : Ok S w x own M) (hd : decode M.2.1 pc = .ok (.i2l, 1)) (k : V S w x M cn (pc + 1) ls (.long a.toInt64 :: st) σ) : V S w x M cn pc ls (.int a :: st) σ := fun H locs la h1 h2 h3 => lv_i2l o.2.1.1 o.2.1.2.1 hd rfl (k H locs la h1 h2 h3)
theorem V_lcmp {a b : Int64} (o : Ok S w x own M) (hd : decode M.2.1 pc = .ok (.lcmp, 1)) (k : V S w x M cn (pc + 1) ls (.int (lg_cmp a b) :: st) σ) : V S w x M cn pc ls (.long b :: .long a :: st) σ := fun H locs la h1 h2 h3 => W.lcmp o.2.1.1 o.2.1.2.1 hd (k H locs la h1 h2 h3)
theorem V_dup {v : Value} (o : Ok S w x own M) (hd : decode M.2.1 pc = .ok (.dup, 1)) (hv : v.category = 1) (k : V S w x M cn (pc + 1) ls (v :: v :: st) σ) : V S w x M cn pc ls (v :: st) σ := fun H locs la h1 h2 h3 => lv_dup o.2.1.1 o.2.1.2.1 hd ((cvv_cat w v).trans hv) (k H locs la h1 h2 h3)
theorem V_pop {v : Value} (o : Ok S w x own M) (hd : decode M.2.1 pc = .ok (.pop, 1)) (hv : v.category = 1) (k : V S w x M cn (pc + 1) ls (st) σ) : V S w x M cn pc ls (v :: st) σ := fun H locs la h1 h2 h3 => lv_pop o.2.1.1 o.2.1.2.1 hd ((cvv_cat w v).trans hv) (k H locs la h1 h2 h3)
theorem V_goto {off : Int} {tgt : Nat} (o : Ok S w x own M) (hd : decode M.2.1 pc = .ok (.goto off, 3)) (ht : (pc : Int) + off = (tgt : Int)) (k : V S w x M cn (tgt) ls (st) σ) : V S w x M cn pc ls (st) σ := fun H locs la h1 h2 h3 => lv_goto o.2.1.1 o.2.1.2.1 hd ht (k H locs la h1 h2 h3)
theorem V_if_lt {a : Int32} {off : Int} {tgt : Nat} (o : Ok S w x own M) (hd : decode M.2.1 pc = .ok (.ifCond .lt off, 3)) (ht : (pc : Int) + off = (tgt : Int)) (kt : (a < 0) → V S w x M cn (tgt) ls (st) σ) (kf : ¬ (a < 0) → V S w x M cn (pc + 3) ls (st) σ) : V S w x M cn pc ls (.int a :: st) σ := fun H locs la h1 h2 h3 => lv_if_lt o.2.1.1 o.2.1.2.1 hd ht (fun c => kt c H locs la h1 h2 h3) (fun c => kf c H locs la h1 h2 h3)
theorem V_icmp_lt {a b : Int32} {off : Int} {tgt : Nat} (o : Ok S w x own M) (hd : decode M.2.1 pc = .ok (.if_icmp .lt off, 3)) (ht : (pc : Int) + off = (tgt : Int)) (kt : (a < b) → V S w x M cn (tgt) ls (st) σ) (kf : ¬ (a < b) → V S w x M cn (pc + 3) ls (st) σ) : V S w x M cn pc ls (.int b :: .int a :: st) σ := fun H locs la h1 h2 h3 => lv_icmp_lt o.2.1.1 o.2.1.2.1 hd ht (fun c => kt c H locs la h1 h2 h3) (fun c => kf c H locs la h1 h2 h3)
theorem V_if_le {a : Int32} {off : Int} {tgt : Nat} (o : Ok S w x own M) (hd : decode M.2.1 pc = .ok (.ifCond .le off, 3)) (ht : (pc : Int) + off = (tgt : Int)) (kt : (a ≤ 0) → V S w x M cn (tgt) ls (st) σ) (kf : ¬ (a ≤ 0) → V S w x M cn (pc + 3) ls (st) σ) : V S w x M cn pc ls (.int a :: st) σ := fun H locs la h1 h2 h3 => lv_if_le o.2.1.1 o.2.1.2.1 hd ht (fun c => kt c H locs la h1 h2 h3) (fun c => kf c H locs la h1 h2 h3)
theorem V_icmp_le {a b : Int32} {off : Int} {tgt : Nat} (o : Ok S w x own M) (hd : decode M.2.1 pc = .ok (.if_icmp .le off, 3)) (ht : (pc : Int) + off = (tgt : Int)) (kt : (a ≤ b) → V S w x M cn (tgt) ls (st) σ) (kf : ¬ (a ≤ b) → V S w x M cn (pc + 3) ls (st) σ) : V S w x M cn pc ls (.int b :: .int a :: st) σ := fun H locs la h1 h2 h3 => lv_icmp_le o.2.1.1 o.2.1.2.1 hd ht (fun c => kt c H locs la h1 h2 h3) (fun c => kf c H locs la h1 h2 h3)
theorem V_if_gt {a : Int32} {off : Int} {tgt : Nat} (o : Ok S w x own M) (hd : decode M.2.1 pc = .ok (.ifCond .gt off, 3)) (ht : (pc : Int) + off = (tgt : Int)) (kt : (0 < a) → V S w x M cn (tgt) ls (st) σ) (kf : ¬ (0 < a) → V S w x M cn (pc + 3) ls (st) σ) : V S w x M cn pc ls (.int a :: st) σ := fun H locs la h1 h2 h3 => lv_if_gt o.2.1.1 o.2.1.2.1 hd ht (fun c => kt c H locs la h1 h2 h3) (fun c => kf c H locs la h1 h2 h3)
theorem V_icmp_gt {a b : Int32} {off : Int} {tgt : Nat} (o : Ok S w x own M) (hd : decode M.2.1 pc = .ok (.if_icmp .gt off, 3)) (ht : (pc : Int) + off = (tgt : Int)) (kt : (b < a) → V S w x M cn (tgt) ls (st) σ) (kf : ¬ (b < a) → V S w x M cn (pc + 3) ls (st) σ) : V S w x M cn pc ls (.int b :: .int a :: st) σ := fun H locs la h1 h2 h3 => lv_icmp_gt o.2.1.1 o.2.1.2.1 hd ht (fun c => kt c H locs la h1 h2 h3) (fun c => kf c H locs la h1 h2 h3)
theorem V_if_ge {a : Int32} {off : Int} {tgt : Nat} (o : Ok S w x own M) (hd : decode M.2.1 pc = .ok (.ifCond .ge off, 3)) (ht : (pc : Int) + off = (tgt : Int)) (kt : (0 ≤ a) → V S w x M cn (tgt) ls (st) σ) (kf : ¬ (0 ≤ a) → V S w x M cn (pc + 3) ls (st) σ) : V S w x M cn pc ls (.int a :: st) σ := fun H locs la h1 h2 h3 => lv_if_ge o.2.1.1 o.2.1.2.1 hd ht (fun c => kt c H locs la h1 h2 h3) (fun c => kf c H locs la h1 h2 h3)
theorem V_icmp_ge {a b : Int32} {off : Int} {tgt : Nat} (o : Ok S w x own M) (hd : decode M.2.1 pc = .ok (.if_icmp .ge off, 3)) (ht : (pc : Int) + off = (tgt : Int)) (kt : (b ≤ a) → V S w x M cn (tgt) ls (st) σ) (kf : ¬ (b ≤ a) → V S w x M cn (pc + 3) ls (st) σ) : V S w x M cn pc ls (.int b :: .int a :: st) σ := fun H locs la h1 h2 h3 => lv_icmp_ge o.2.1.1 o.2.1.2.1 hd ht (fun c => kt c H locs la h1 h2 h3) (fun c => kf c H locs la h1 h2 h3)
theorem V_if_eq {a : Int32} {off : Int} {tgt : Nat} (o : Ok S w x own M) (hd : decode M.2.1 pc = .ok (.ifCond .eq off, 3)) (ht : (pc : Int) + off = (tgt : Int)) (kt : (a = 0) → V S w x M cn (tgt) ls (st) σ) (kf : ¬ (a = 0) → V S w x M cn (pc + 3) ls (st) σ) : V S w x M cn pc ls (.int a :: st) σ := fun H locs la h1 h2 h3 => lv_if_eq o.2.1.1 o.2.1.2.1 hd ht (fun c => kt c H locs la h1 h2 h3) (fun c => kf c H locs la h1 h2 h3)
theorem V_icmp_eq {a b : Int32} {off : Int} {tgt : Nat} (o : Ok S w x own M) (hd : decode M.2.1 pc = .ok (.if_icmp .eq off, 3)) (ht : (pc : Int) + off = (tgt : Int)) (kt : (a = b) → V S w x M cn (tgt) ls (st) σ) (kf : ¬ (a = b) → V S w x M cn (pc + 3) ls (st) σ) : V S w x M cn pc ls (.int b :: .int a :: st) σ := fun H locs la h1 h2 h3 => lv_icmp_eq o.2.1.1 o.2.1.2.1 hd ht (fun c => kt c H locs la h1 h2 h3) (fun c => kf c H locs la h1 h2 h3)
theorem V_if_ne {a : Int32} {off : Int} {tgt : Nat} (o : Ok S w x own M) (hd : decode M.2.1 pc = .ok (.ifCond .ne off, 3)) (ht : (pc : Int) + off = (tgt : Int)) (kt : (¬ a = 0) → V S w x M cn (tgt) ls (st) σ) (kf : a = 0 → V S w x M cn (pc + 3) ls (st) σ) : V S w x M cn pc ls (.int a :: st) σ := fun H locs la h1 h2 h3 => lv_if_ne o.2.1.1 o.2.1.2.1 hd ht (fun c => kt c H locs la h1 h2 h3) (fun c => kf c H locs la h1 h2 h3)
theorem V_icmp_ne {a b : Int32} {off : Int} {tgt : Nat} (o : Ok S w x own M) (hd : decode M.2.1 pc = .ok (.if_icmp .ne off, 3)) (ht : (pc : Int) + off = (tgt : Int)) (kt : (¬ a = b) → V S w x M cn (tgt) ls (st) σ) (kf : a = b → V S w x M cn (pc + 3) ls (st) σ) : V S w x M cn pc ls (.int b :: .int a :: st) σ := fun H locs la h1 h2 h3 => lv_icmp_ne o.2.1.1 o.2.1.2.1 hd ht (fun c => kt c H locs la h1 h2 h3) (fun c => kf c H locs la h1 h2 h3)
theorem V_ifnull_r {a : Nat} {off : Int} (o : Ok S w x own M) (hd : decode M.2.1 pc = .ok (.ifnull off, 3)) (k : V S w x M cn (pc + 3) ls (st) σ) : V S w x M cn pc ls (.ref a :: st) σ := fun H locs la h1 h2 h3 => lv_ifnull o.2.1.1 o.2.1.2.1 hd (k H locs la h1 h2 h3)
theorem V_ifnull_n {off : Int} {tgt : Nat} (o : Ok S w x own M) (hd : decode M.2.1 pc = .ok (.ifnull off, 3)) (ht : (pc : Int) + off = (tgt : Int)) (k : V S w x M cn (tgt) ls (st) σ) : V S w x M cn pc ls (.null :: st) σ := fun H locs la h1 h2 h3 => lv_ifnullN o.2.1.1 o.2.1.2.1 hd ht (k H locs la h1 h2 h3)
theorem V_ifnonnull_r {a : Nat} {off : Int} {tgt : Nat} (o : Ok S w x own M) (hd : decode M.2.1 pc = .ok (.ifnonnull off, 3)) (ht : (pc : Int) + off = (tgt : Int)) (k : V S w x M cn (tgt) ls (st) σ) : V S w x M cn pc ls (.ref a :: st) σ := fun H locs la h1 h2 h3 => lv_ifnonnull o.2.1.1 o.2.1.2.1 hd ht (k H locs la h1 h2 h3)
theorem V_ifnonnull_n {off : Int} (o : Ok S w x own M) (hd : decode M.2.1 pc = .ok (.ifnonnull off, 3)) (k : V S w x M cn (pc + 3) ls (st) σ) : V S w x M cn pc ls (.null :: st) σ := fun H locs la h1 h2 h3 => lv_ifnonnullN o.2.1.1 o.2.1.2.1 hd (k H locs la h1 h2 h3)
theorem V_tableOut {df lo hi : Int} {offs : Array Int} {len : Nat} {a : Int32} {tgt : Nat} (o : Ok S w x own M) (hd : decode M.2.1 pc = .ok (.tableswitch df lo hi offs, len)) (h : a.toInt < lo ∨ hi < a.toInt) (ht : (pc : Int) + df = (tgt : Int)) (k : V S w x M cn (tgt) ls (st) σ) : V S w x M cn pc ls (.int a :: st) σ := fun H locs la h1 h2 h3 => lv_tableOut o.2.1.1 o.2.1.2.1 hd h ht (k H locs la h1 h2 h3)
theorem V_tableIn {df lo hi : Int} {offs : Array Int} {len : Nat} {a : Int32} {off : Int} {tgt : Nat} (o : Ok S w x own M) (hd : decode M.2.1 pc = .ok (.tableswitch df lo hi offs, len)) (q1 : ¬ a.toInt < lo) (q2 : ¬ hi < a.toInt) (ho : offs[(a.toInt - lo).toNat]? = some off) (ht : (pc : Int) + off = (tgt : Int)) (k : V S w x M cn (tgt) ls (st) σ) : V S w x M cn pc ls (.int a :: st) σ := fun H locs la h1 h2 h3 => lv_tableIn o.2.1.1 o.2.1.2.1 hd q1 q2 ho ht (k H locs la h1 h2 h3)
theorem V_lookup {df : Int} {ps : Array (Int × Int)} {len : Nat} {a : Int32} {off : Int} {tgt : Nat} (o : Ok S w x own M) (hd : decode M.2.1 pc = .ok (.lookupswitch df ps, len)) (hp : (ps.toList.zip (ps.toList.drop 1)).all (fun (a, next) => a.1 < next.1) = true) (ho : Op.lookupswitch.offset ps.toList df a.toInt = off) (ht : (pc : Int) + off = (tgt : Int)) (k : V S w x M cn (tgt) ls (st) σ) : V S w x M cn pc ls (.int a :: st) σ := fun H locs la h1 h2 h3 => lv_lookup o.2.1.1 o.2.1.2.1 hd hp ho ht (k H locs la h1 h2 h3)
end ROWS
end
section
section MEM
theorem vwCl_at {k : Nat} (h : k < 10) : vwCl[k]? = some (RXn k, TXn k, nf k) := by
  match k, h with
  | 0, _ => rfl | 1, _ => rfl | 2, _ => rfl | 3, _ => rfl | 4, _ => rfl | 5, _ => rfl | 6, _ => rfl | 7, _ => rfl | 8, _ => rfl | 9, _ => rfl
theorem tyXn_ok {k : Nat} (h : k < 10) : ∀ j, j < nf k → parseFieldDescriptor (TXn k j).2.2.1 = some (tyXn k j) := by
  match k, h with
  | 0, _ => exact tyX0_ok | 1, _ => exact tyX1_ok | 2, _ => exact tyX2_ok | 3, _ => exact tyX3_ok | 4, _ => exact tyX4_ok | 5, _ => exact tyX5_ok | 6, _ => exact tyX6_ok | 7, _ => exact tyX7_ok | 8, _ => exact tyX8_ok | 9, _ => exact tyX9_ok
theorem nmXn {k : Nat} (h : k < 10) : ∀ a, a < nf k → ∀ b, b < nf k → a ≠ b → (TXn k a).2.1 ≠ (TXn k b).2.1 := by
  match k, h with
  | 0, _ => exact nmX0 | 1, _ => exact nmX1 | 2, _ => exact nmX2 | 3, _ => exact nmX3 | 4, _ => exact nmX4 | 5, _ => exact nmX5 | 6, _ => exact nmX6 | 7, _ => exact nmX7 | 8, _ => exact nmX8 | 9, _ => exact nmX9
theorem wsIn (k : Nat) (C : String) (T : u_T) (N : Nat) (h : ∀ w ∈ u_ws C T N, w ∈ lw_tbl) (hg : (u_ws C T N).all goodWord = true) : ∀ w ∈ u_ws C T N, w ∈ gw := fun w hw => gw_of (h w hw) (List.all_eq_true.mp hg w hw)
theorem wsXn_in {k : Nat} (h : k < 10) : ∀ w ∈ u_ws (RXn k) (TXn k) (nf k), w ∈ gw := by
  match k, h with
  | 0, _ => exact wsIn 0 _ _ _ (by decide +kernel) (by decide +kernel)
  | 1, _ => exact wsIn 1 _ _ _ (by decide +kernel) (by decide +kernel)
  | 2, _ => exact wsIn 2 _ _ _ (by decide +kernel) (by decide +kernel)
  | 3, _ => exact wsIn 3 _ _ _ (by decide +kernel) (by decide +kernel)
  | 4, _ => exact wsIn 4 _ _ _ (by decide +kernel) (by decide +kernel)
  | 5, _ => exact wsIn 5 _ _ _ (by decide +kernel) (by decide +kernel)
  | 6, _ => exact wsIn 6 _ _ _ (by decide +kernel) (by decide +kernel)
  | 7, _ => exact wsIn 7 _ _ _ (by decide +kernel) (by decide +kernel)
  | 8, _ => exact wsIn 8 _ _ _ (by decide +kernel) (by decide +kernel)
  | 9, _ => exact wsIn 9 _ _ _ (by decide +kernel) (by decide +kernel)
/-- a field's link: own class, index, the kind, the slot -/
def FL (own : String) (idx ci j : Nat) : Prop := ci < 10 ∧ j < nf ci ∧ Cond.fieldLink own idx (TXn ci j).1 (TXn ci j).2.1 (TXn ci j).2.2.1 ∈ gw
variable {S : Sh} {w : Wp} {x : Cx} {own : String} {M : Md} {cn : Nat × Nat} {pc : Nat} {ls : List (Nat × Value)} {st : List Value} {σ : Mm}
theorem cll_obj {a ci : Nat} (hk : S.2.1 a = ci) (hc : ci < 10) : cll S w σ a = .inr (ci, (List.range (nf ci)).map (fvv S w σ a)) := by
  subst hk
  simp [cll, hc]
theorem fvv_at {a n j : Nat} (hj : j < n) : ((List.range n).map (fvv S w σ a))[j]? = some (fvv S w σ a j) := by
  rw [List.getElem?_map, List.getElem?_range hj]; rfl
theorem V_get {a ci j idx : Nat} {v : Value} (o : Ok S w x own M) (hd : decode M.2.1 pc = .ok (.getfield idx, 3)) (hk : S.2.1 a = ci) (hl : FL own idx ci j) (hv : fvv S w σ a j = cvv w v)
    (k : V S w x M cn (pc + 3) ls (v :: st) σ) : V S w x M cn pc ls (.ref a :: st) σ := by
  intro H locs la h1 h2 h3
  obtain ⟨hf, ⟨hx, hb, -, hown, hts⟩, hK, -⟩ := id o
  have ha : a ∈ S.1 := hf.2.1 a (by rw [hk]; exact Nat.lt_of_lt_of_le hl.1 (by decide))
  obtain ⟨q, hq⟩ := Wws_get hf σ ha
  rw [cll_obj hk hl.1] at hq
  exact va_get (C := RXn ci) (T := TXn ci) (N := nf ci) hx hb hts (wsXn_in hl.1) hown hK h1 q hq (vwCl_at hl.1) j hl.2.1 (hts _ hl.2.2) (fun _ h => h) ((fvv_at hl.2.1).trans (congrArg some hv)) hd (k H locs la h1 h2 h3)
theorem V_getI {a ci j idx : Nat} (o : Ok S w x own M) (hd : decode M.2.1 pc = .ok (.getfield idx, 3)) (hk : S.2.1 a = ci) (hl : FL own idx ci j) (hr : S.2.2.2 a j = none)
    (k : V S w x M cn (pc + 3) ls (.int (σ.1 a j) :: st) σ) : V S w x M cn pc ls (.ref a :: st) σ := V_get o hd hk hl (by simp [fvv, hr, cvv]) k
theorem V_getR {a ci j idx t : Nat} (o : Ok S w x own M) (hd : decode M.2.1 pc = .ok (.getfield idx, 3)) (hk : S.2.1 a = ci) (hl : FL own idx ci j) (hr : S.2.2.2 a j = some t)
    (k : V S w x M cn (pc + 3) ls (.ref t :: st) σ) : V S w x M cn pc ls (.ref a :: st) σ := V_get o hd hk hl (by simp [fvv, hr, cvv]) k
theorem fvv_set {a n j : Nat} {v : Int32} (hr : S.2.2.2 a j = none) : ((List.range n).map (fvv S w σ a)).set j (.int v) = (List.range n).map (fvv S w (wI σ a j v) a) := by
  apply List.ext_getElem?
  intro i
  by_cases hi : i < n
  · by_cases hij : j = i
    · subst hij
      rw [List.getElem?_set_self (by simpa using hi), fvv_at hi]
      simp [fvv, hr, wI, up2]
    · rw [List.getElem?_set_ne hij, fvv_at hi, fvv_at hi]
      have : ¬ i = j := fun q => hij q.symm
      simp [fvv, wI, up2, this]
  · rw [List.getElem?_eq_none (by simpa using hi), List.getElem?_eq_none (by simpa using hi)]
theorem cll_wI {a j : Nat} {v : Int32} (b : Nat) (h : b ≠ a) : cll S w (wI σ a j v) b = cll S w σ b := by
  have e1 : fvv S w (wI σ a j v) b = fvv S w σ b := by funext i; simp [fvv, wI, up2, h]
  have e2 : (wI σ a j v).1 b = σ.1 b := by funext i; simp [wI, up2, h]
  have e3 : ∀ i, trr S (wI σ a j v) b i = trr S σ b i := fun i => rfl
  simp only [cll, e1, e2, e3]; rfl
theorem V_put {a ci j idx : Nat} {v : Int32} (o : Ok S w x own M) (hd : decode M.2.1 pc = .ok (.putfield idx, 3)) (hk : S.2.1 a = ci) (hl : FL own idx ci j) (hr : S.2.2.2 a j = none) (hfin : (TXn ci j).2.2.2 = false) (hn : narrow (tyXn ci j) (.int v) = .int v) (hfit : fits (tyXn ci j) (.int v) = true)
    (k : V S w x M cn (pc + 3) ls st (wI σ a j v)) : V S w x M cn pc ls (.int v :: .ref a :: st) σ := by
  intro H locs la h1 h2 h3
  obtain ⟨hf, ⟨hx, hb, -, hown, hts⟩, hK, -⟩ := id o
  have ha : a ∈ S.1 := hf.2.1 a (by rw [hk]; exact Nat.lt_of_lt_of_le hl.1 (by decide))
  obtain ⟨q, hq0⟩ := Wws_get hf σ ha
  have hq := hq0
  rw [cll_obj hk hl.1] at hq
  refine va_put (C := RXn ci) (T := TXn ci) (N := nf ci) hx hb hts (wsXn_in hl.1) (tyXn ci) (tyXn_ok hl.1) (nmXn hl.1) hown hK h1 (Wws_D hf σ) h2 q hq (vwCl_at hl.1) j hl.2.1 (hts _ hl.2.2) (fun _ h => h) hfin (tyXn_ok hl.1 j hl.2.1) hn hfit (by simpa using hl.2.1) hd (fun H1 locs1 g1 _ g3 => ?_)
  refine k H1 locs1 la ?_ g3 h3
  show va_P w.D vwCl (Wws S w (wI σ a j v)) H1
  rw [← Wws_set hf ha hq0 (fun b hb => cll_wI b hb), cll_obj hk hl.1, ← fvv_set hr]
  exact g1
theorem V_putI {a ci j idx : Nat} {v : Int32} (o : Ok S w x own M) (hd : decode M.2.1 pc = .ok (.putfield idx, 3)) (hk : S.2.1 a = ci) (hl : FL own idx ci j) (hr : S.2.2.2 a j = none) (hfin : (TXn ci j).2.2.2 = false) (ht : tyXn ci j = .int)
    (k : V S w x M cn (pc + 3) ls st (wI σ a j v)) : V S w x M cn pc ls (.int v :: .ref a :: st) σ := V_put o hd hk hl hr hfin (by rw [ht]; rfl) (by rw [ht]; rfl) k
theorem V_putZ {a ci j idx : Nat} {v : Int32} (o : Ok S w x own M) (hd : decode M.2.1 pc = .ok (.putfield idx, 3)) (hk : S.2.1 a = ci) (hl : FL own idx ci j) (hr : S.2.2.2 a j = none) (hfin : (TXn ci j).2.2.2 = false) (ht : tyXn ci j = .boolean) (hv : v = 0 ∨ v = 1)
    (k : V S w x M cn (pc + 3) ls st (wI σ a j v)) : V S w x M cn pc ls (.int v :: .ref a :: st) σ := V_put o hd hk hl hr hfin (by rw [ht]; rcases hv with rfl | rfl <;> rfl) (by rw [ht]; rcases hv with rfl | rfl <;> rfl) k
/-- rows of ints -/
def ix (i : Int32) : Nat := i.toNatClampNeg
theorem cll_ints {a : Nat} (hk : S.2.1 a = 10) : cll S w σ a = .inl (w.2.2.2.2.2.1, S.2.2.1 a, .inl (σ.1 a)) := by simp [cll, hk]
theorem cll_longs {a : Nat} (hk : S.2.1 a = 11) : cll S w σ a = .inl (w.2.2.2.2.2.2.1, S.2.2.1 a, .inr (.inl (σ.2.1 a))) := by simp [cll, hk]
theorem cll_refs {a : Nat} (hk : S.2.1 a = 12 ∨ S.2.1 a = 13) : cll S w σ a = .inl (w.2.2.2.2.2.2.2, S.2.2.1 a, .inr (.inr (.inr (.inr (fun j => (trr S σ a j).map w.ad))))) := by rcases hk with hk | hk <;> simp [cll, hk]
theorem V_iald {a : Nat} {i : Int32} (o : Ok S w x own M) (hd : decode M.2.1 pc = .ok (.iaload, 1)) (hk : S.2.1 a = 10) (hi : vp_in i (S.2.2.1 a))
    (k : V S w x M cn (pc + 1) ls (.int (σ.1 a (ix i)) :: st) σ) : V S w x M cn pc ls (.int i :: .ref a :: st) σ := by
  intro H locs la h1 h2 h3
  obtain ⟨hf, ⟨hx, hb, -, hown, hts⟩, hK, -⟩ := id o
  have ha : a ∈ S.1 := hf.2.1 a (by rw [hk]; decide)
  obtain ⟨q, hq⟩ := Wws_get hf σ ha
  rw [cll_ints hk] at hq
  exact va_iald hx hb hK h1 q 0 hq rfl hi hd (k H locs la h1 h2 h3)
theorem V_lald {a : Nat} {i : Int32} (o : Ok S w x own M) (hd : decode M.2.1 pc = .ok (.laload, 1)) (hk : S.2.1 a = 11) (hi : vp_in i (S.2.2.1 a))
    (k : V S w x M cn (pc + 1) ls (.long (σ.2.1 a (ix i)) :: st) σ) : V S w x M cn pc ls (.int i :: .ref a :: st) σ := by
  intro H locs la h1 h2 h3
  obtain ⟨hf, ⟨hx, hb, -, hown, hts⟩, hK, -⟩ := id o
  have ha : a ∈ S.1 := hf.2.1 a (by rw [hk]; decide)
  obtain ⟨q, hq⟩ := Wws_get hf σ ha
  rw [cll_longs hk] at hq
  exact va_lald hx hb hK h1 q 1 hq rfl hi hd (k H locs la h1 h2 h3)
def rfv (r : Option Nat) : Value := match r with
  | some t => .ref t
  | none => .null
theorem V_aald {a : Nat} {i : Int32} (o : Ok S w x own M) (hd : decode M.2.1 pc = .ok (.aaload, 1)) (hk : S.2.1 a = 12 ∨ S.2.1 a = 13) (hi : vp_in i (S.2.2.1 a))
    (k : V S w x M cn (pc + 1) ls (rfv (trr S σ a (ix i)) :: st) σ) : V S w x M cn pc ls (.int i :: .ref a :: st) σ := by
  intro H locs la h1 h2 h3
  obtain ⟨hf, ⟨hx, hb, -, hown, hts⟩, hK, -⟩ := id o
  have ha : a ∈ S.1 := hf.2.1 a (by rcases hk with hk | hk <;> (rw [hk]; decide))
  obtain ⟨q, hq⟩ := Wws_get hf σ ha
  rw [cll_refs hk] at hq
  refine va_aldq hx hb hK h1 q 2 hq rfl hi hd ?_
  have e : va_rf ((trr S σ a (ix i)).map w.ad) = cvv w (rfv (trr S σ a (ix i))) := by cases trr S σ a (ix i) <;> rfl
  show W _ _ _ _ _ _ _ _ _ _ _ _ _ _ _ (F0 x.m (pc + 1) la (va_rf ((trr S σ a (ix i)).map w.ad) :: st.map (cvv w)))
  rw [e]
  exact k H locs la h1 h2 h3
theorem V_aaldS {a t : Nat} {i : Int32} (o : Ok S w x own M) (hd : decode M.2.1 pc = .ok (.aaload, 1)) (hk : S.2.1 a = 12 ∨ S.2.1 a = 13) (hi : vp_in i (S.2.2.1 a)) (ht : trr S σ a (ix i) = some t)
    (k : V S w x M cn (pc + 1) ls (.ref t :: st) σ) : V S w x M cn pc ls (.int i :: .ref a :: st) σ := V_aald o hd hk hi (by rw [ht]; exact k)
theorem V_aaldN {a : Nat} {i : Int32} (o : Ok S w x own M) (hd : decode M.2.1 pc = .ok (.aaload, 1)) (hk : S.2.1 a = 12 ∨ S.2.1 a = 13) (hi : vp_in i (S.2.2.1 a)) (ht : trr S σ a (ix i) = none)
    (k : V S w x M cn (pc + 1) ls (.null :: st) σ) : V S w x M cn pc ls (.int i :: .ref a :: st) σ := V_aald o hd hk hi (by rw [ht]; exact k)
theorem V_alen {a : Nat} {v : Int32} (o : Ok S w x own M) (hd : decode M.2.1 pc = .ok (.arraylength, 1)) (hk : S.2.1 a = 10 ∨ S.2.1 a = 11 ∨ S.2.1 a = 12 ∨ S.2.1 a = 13) (hv : Int32.ofNat (S.2.2.1 a) = v)
    (k : V S w x M cn (pc + 1) ls (.int v :: st) σ) : V S w x M cn pc ls (.ref a :: st) σ := by
  intro H locs la h1 h2 h3
  obtain ⟨hf, ⟨hx, hb, -, hown, hts⟩, hK, -⟩ := id o
  have ha : a ∈ S.1 := hf.2.1 a (by rcases hk with hk | hk | hk | hk <;> (rw [hk]; decide))
  obtain ⟨q, hq⟩ := Wws_get hf σ ha
  rcases hk with hk | hk | hk
  · rw [cll_ints hk] at hq
    exact va_alen hx hb hK h1 q 0 hq rfl hv hd (k H locs la h1 h2 h3)
  · rw [cll_longs hk] at hq
    exact va_alen hx hb hK h1 q 1 hq rfl hv hd (k H locs la h1 h2 h3)
  · rw [cll_refs hk] at hq
    exact va_alen hx hb hK h1 q 2 hq rfl hv hd (k H locs la h1 h2 h3)
theorem cll_wI_ints {a j : Nat} {v : Int32} (hk : S.2.1 a = 10) : cll S w (wI σ a j v) a = .inl (w.2.2.2.2.2.1, S.2.2.1 a, .inl (upd (σ.1 a) j v)) := by
  rw [cll_ints hk]
  have e : (wI σ a j v).1 a = upd (σ.1 a) j v := by funext i; simp [wI, up2, upd]
  rw [e]
theorem V_iast {a : Nat} {i v : Int32} (o : Ok S w x own M) (hd : decode M.2.1 pc = .ok (.iastore, 1)) (hk : S.2.1 a = 10) (hi : vp_in i (S.2.2.1 a))
    (k : V S w x M cn (pc + 1) ls st (wI σ a (ix i) v)) : V S w x M cn pc ls (.int v :: .int i :: .ref a :: st) σ := by
  intro H locs la h1 h2 h3
  obtain ⟨hf, ⟨hx, hb, -, hown, hts⟩, hK, -⟩ := id o
  have ha : a ∈ S.1 := hf.2.1 a (by rw [hk]; decide)
  obtain ⟨q, hq0⟩ := Wws_get hf σ ha
  have hq := hq0
  rw [cll_ints hk] at hq
  refine va_iast hx hb hK h1 (Wws_D hf σ) h2 q 0 hq rfl hi hd (fun H1 locs1 g1 _ g3 => ?_)
  refine k H1 locs1 la ?_ g3 h3
  show va_P w.D vwCl (Wws S w (wI σ a (ix i) v)) H1
  rw [← Wws_set hf ha hq0 (fun b hb => cll_wI b hb), cll_wI_ints hk]
  exact g1
theorem cll_wL {a j : Nat} {v : Int64} (b : Nat) (h : b ≠ a) : cll S w (wL σ a j v) b = cll S w σ b := by
  have e1 : fvv S w (wL σ a j v) b = fvv S w σ b := by funext i; rfl
  have e2 : (wL σ a j v).2.1 b = σ.2.1 b := by funext i; simp [wL, up2, h]
  have e3 : ∀ i, trr S (wL σ a j v) b i = trr S σ b i := fun i => rfl
  simp only [cll, e1, e2, e3]; rfl
theorem V_last {a : Nat} {i : Int32} {v : Int64} (o : Ok S w x own M) (hd : decode M.2.1 pc = .ok (.lastore, 1)) (hk : S.2.1 a = 11) (hi : vp_in i (S.2.2.1 a))
    (k : V S w x M cn (pc + 1) ls st (wL σ a (ix i) v)) : V S w x M cn pc ls (.long v :: .int i :: .ref a :: st) σ := by
  intro H locs la h1 h2 h3
  obtain ⟨hf, ⟨hx, hb, -, hown, hts⟩, hK, -⟩ := id o
  have ha : a ∈ S.1 := hf.2.1 a (by rw [hk]; decide)
  obtain ⟨q, hq0⟩ := Wws_get hf σ ha
  have hq := hq0
  rw [cll_longs hk] at hq
  refine va_last hx hb hK h1 (Wws_D hf σ) h2 q 1 hq rfl hi hd (fun H1 locs1 g1 _ g3 => ?_)
  refine k H1 locs1 la ?_ g3 h3
  show va_P w.D vwCl (Wws S w (wL σ a (ix i) v)) H1
  rw [← Wws_set hf ha hq0 (fun b hb => cll_wL b hb), cll_longs hk]
  have e : (wL σ a (ix i) v).2.1 a = vp_updL (σ.2.1 a) (ix i) v := by funext j; simp [wL, up2, vp_updL]
  rw [e]
  exact g1
theorem cll_wT {a j : Nat} {v : Option Nat} (b : Nat) (h : b ≠ a) : cll S w (wT σ a j v) b = cll S w σ b := by
  have e1 : fvv S w (wT σ a j v) b = fvv S w σ b := by funext i; rfl
  have e3 : ∀ i, trr S (wT σ a j v) b i = trr S σ b i := fun i => by simp [trr, wT, up2, h]
  simp only [cll, e1, e3]; rfl
theorem V_aast {a t : Nat} {i : Int32} (o : Ok S w x own M) (hd : decode M.2.1 pc = .ok (.aastore, 1)) (hk : S.2.1 a = 12) (hi : vp_in i (S.2.2.1 a)) (ht : S.2.1 t = 6)
    (k : V S w x M cn (pc + 1) ls st (wT σ a (ix i) (some t))) : V S w x M cn pc ls (.ref t :: .int i :: .ref a :: st) σ := by
  intro H locs la h1 h2 h3
  obtain ⟨hf, ⟨hx, hb, -, hown, hts⟩, hK, -⟩ := id o
  have ha : a ∈ S.1 := hf.2.1 a (by rw [hk]; decide)
  have hta : t ∈ S.1 := hf.2.1 t (by rw [ht]; decide)
  obtain ⟨q, hq0⟩ := Wws_get hf σ ha
  obtain ⟨r, hr⟩ := Wws_get hf σ hta
  rw [cll_obj ht (by decide)] at hr
  have hq := hq0
  rw [cll_refs (Or.inl hk)] at hq
  refine va_astq hx hb hK h1 (Wws_D hf σ) h2 q 2 r 6 hq rfl hr rfl hi hd (fun H1 locs1 g1 _ g3 => ?_)
  refine k H1 locs1 la ?_ g3 h3
  show va_P w.D vwCl (Wws S w (wT σ a (ix i) (some t))) H1
  rw [← Wws_set hf ha hq0 (fun b hb => cll_wT b hb), cll_refs (Or.inl hk)]
  have e : (fun j => (trr S (wT σ a (ix i) (some t)) a j).map w.ad) = va_up (fun j => (trr S σ a j).map w.ad) (ix i) (some (w.ad t)) := by
    funext j
    by_cases hj : j = ix i
    · subst hj; simp [trr, hk, wT, up2, va_up]
    · simp [trr, hk, wT, up2, va_up, hj]
  rw [e]
  exact g1
end MEM
end
section
section CALL
def Rm (d : Nat) : Room := { frames := d, cells := 0, slots := 0, locals := 40 * d }
def Pw (S : Sh) (w : Wp) (σ : Mm) (U : State) : Prop := WH S w σ U.heap ∧ va_K w.D vwCl w.ty U ∧ ∀ n ∈ nws, va_Nw n U
def Qw (S : Sh) (w : Wp) (Q : Option Value → Mm → Prop) : Array Value → State → Outcome → State → Prop := fun _ st oc t => ∃ (v : Option Value) (σ' : Mm), oc = .returned (v.map (cvv w)) ∧ Q v σ' ∧ Pw S w σ' t ∧ va_F (Aw w) st t
/-- a method's contract: at depth d, from these arguments and this memory, it returns with Q -/
def Ct (S : Sh) (w : Wp) (d : Nat) (M : Md) (as : List Value) (σ : Mm) (Q : Option Value → Mm → Prop) : Prop :=
  Met w.l M.1 (Cond.code M.1 M.2.1 M.2.2.1 M.2.2.2 :: gw) (Rm d) (va_Pc (as.map (cvv w)) (Pw S w σ)) (Qw S w Q) 0 0 (Aw w)
def Rt (S : Sh) (w : Wp) (x : Cx) (d : Nat) (M : Md) (Q : Option Value → Mm → Prop) : Prop := x.R = Rm d ∧ x.F = MQ x.b (Qw S w Q) x.a x.s 0 0 (Aw w) ∧ x.me.sig.returnType = M.2.2.2 ∧ x.me.locks = false
theorem nws_warm {s U : State} (hW : s.WarmedH U.vm) (h : ∀ n ∈ nws, va_Nw n s) : ∀ n ∈ nws, va_Nw n U := by
  intro n hn
  obtain ⟨a, i, y, q, rfl⟩ := nws_nest hn
  exact va_Nw.warmM hW (h _ hn)
theorem nws_same {s U : State} (hW : s.vm = U.vm) (h : ∀ n ∈ nws, va_Nw n s) : ∀ n ∈ nws, va_Nw n U := by
  intro n hn
  obtain ⟨a, i, y, q, rfl⟩ := nws_nest hn
  exact va_Nw.same rfl hW (h _ hn)
theorem args_map (w : Wp) : ∀ (i : Nat) (as : List Value), lv_args i (as.map (cvv w)) = (lv_args i as).map (cvl w)
  | _, [] => rfl
  | i, v :: vs => by
    show (i, cvv w v) :: lv_args (if (cvv w v).category = 2 then i + 2 else i + 1) (vs.map (cvv w)) = cvl w (i, v) :: (lv_args (if v.category = 2 then i + 2 else i + 1) vs).map (cvl w)
    rw [cvv_cat, args_map w _ vs]
    rfl
theorem blind {S : Sh} {w : Wp} {σ : Mm} {as : List Value} : FrameBlind (va_Pc as (Pw S w σ)) := by
  intro a U g mk q
  obtain ⟨q0, qP, qK, qN⟩ := q
  exact ⟨q0, qP, va_K.moved (u := U) (U := U.calling g mk a) (Vm.Alike.refl U.vm) qK, nws_same (s := U) (U := U.calling g mk a) rfl qN⟩
theorem Ct_of {S : Sh} {w : Wp} {d : Nat} {M : Md} {as : List Value} {ls : List (Nat × Value)} {σ : Mm} {Q : Option Value → Mm → Prop} (hf : Fit S w) (hp : plainName M.1.cls = true) (hls : lv_args 0 as = ls) (hn : (lg_sl (as.map (cvv w))).length ≤ M.2.2.1)
    (h : ∀ x : Cx, Ok S w x M.1.cls M → Rt S w x d M Q → V S w x M (0, 0) 0 ls [] σ) : Ct S w d M as σ Q := by
  refine Met.ofW (cc := M.2.1) (maxL := M.2.2.1) (ret := M.2.2.2) hp rfl ?_
  intro p e s m args below meth c s₁ B hml hv
  obtain ⟨rfl, hP, hK, hN⟩ := hv
  have hts : ∀ q ∈ gw, q.before (as.map (cvv w)).toArray s = true := fun q hq => atoms_spec (ws := Cond.code M.1 M.2.1 M.2.2.1 M.2.2.2 :: gw) B.pre q (List.mem_cons_of_mem _ hq)
  have hown : s.vm.findClass M.1.cls = some m.cls := findClass_of_methodNamed B.named
  have hl := lv_entry (as.map (cvv w)) (n := M.2.2.1) hn
  rw [lg_entry_eq]
  rw [args_map, hls] at hl
  exact h (p, e, Rm d, s, m, (as.map (cvv w)).toArray, below, meth, c, MQ below (Qw S w Q) (as.map (cvv w)).toArray s 0 0 (Aw w)) ⟨hf, ⟨B.exec, B.bytes, hml, hown, hts⟩, hK, hN⟩ ⟨rfl, rfl, B.returns, B.notSynchronized⟩ s.heap [] _ hP va_S.rf hl
variable {S : Sh} {w : Wp} {x : Cx} {own : String} {M : Md} {cn : Nat × Nat} {pc d : Nat} {ls : List (Nat × Value)} {st : List Value} {σ : Mm} {Q : Option Value → Mm → Prop}
theorem Qw_end {H : Heap} {locs : List Loc} {v : Option Value} (o : Ok S w x own M) (h1 : WH S w σ H) (h2 : va_S (Aw w) x.s.heap H locs) (hq : Q v σ) : ∀ t : State, t.heap = H → x.s.WarmedH t.vm → Qw S w Q x.a x.s (.returned (v.map (cvv w))) t :=
  fun t ht hW => ⟨v, σ, rfl, hq, ⟨by rw [ht]; exact h1, va_K.moved hW.alike o.2.2.1, nws_warm hW o.2.2.2⟩, h2.F ht⟩
theorem V_iret {v : Int32} {ty : FieldType} (o : Ok S w x own M) (r : Rt S w x d M Q) (hd : decode M.2.1 pc = .ok (.ireturn, 1)) (ht : M.2.2.2 = some ty) (hn : narrow ty (.int v) = .int v) (hq : Q (some (.int v)) σ) : V S w x M (0, 0) pc ls [.int v] σ := by
  intro H locs la h1 h2 h3
  rw [r.2.1]
  exact W.zret o.2.1.1 o.2.1.2.1 (r.2.2.1.trans ht) hn (Qw_end o h1 h2 hq) h2.2.2 hd r.2.2.2
theorem V_lret {v : Int64} (o : Ok S w x own M) (r : Rt S w x d M Q) (hd : decode M.2.1 pc = .ok (.lreturn, 1)) (ht : M.2.2.2 = some .long) (hq : Q (some (.long v)) σ) : V S w x M (0, 0) pc ls [.long v] σ := by
  intro H locs la h1 h2 h3
  rw [r.2.1]
  exact W.lret o.2.1.1 o.2.1.2.1 (r.2.2.1.trans ht) (Qw_end o h1 h2 hq) h2.2.2 hd r.2.2.2
theorem V_ret (o : Ok S w x own M) (r : Rt S w x d M Q) (hd : decode M.2.1 pc = .ok (.return_, 1)) (ht : M.2.2.2 = none) (hq : Q none σ) : V S w x M (0, 0) pc ls [] σ := by
  intro H locs la h1 h2 h3
  rw [r.2.1]
  exact W.vret o.2.1.1 o.2.1.2.1 (r.2.2.1.trans ht) (Qw_end o h1 h2 hq) h2.2.2 hd r.2.2.2
theorem V_aretR {a : Nat} {n : String} (o : Ok S w x own M) (r : Rt S w x d M Q) (hd : decode M.2.1 pc = .ok (.areturn, 1)) (ht : M.2.2.2 = some (.object n)) (hq : Q (some (.ref a)) σ) : V S w x M (0, 0) pc ls [.ref a] σ := by
  intro H locs la h1 h2 h3
  rw [r.2.1]
  exact W.aret o.2.1.1 o.2.1.2.1 (r.2.2.1.trans ht) (Or.inl ⟨n, rfl⟩) (Or.inr ⟨_, rfl⟩) (Qw_end o h1 h2 hq) h2.2.2 hd r.2.2.2
theorem V_aretN {n : String} (o : Ok S w x own M) (r : Rt S w x d M Q) (hd : decode M.2.1 pc = .ok (.areturn, 1)) (ht : M.2.2.2 = some (.object n)) (hq : Q (some .null) σ) : V S w x M (0, 0) pc ls [.null] σ := by
  intro H locs la h1 h2 h3
  rw [r.2.1]
  exact W.aret o.2.1.1 o.2.1.2.1 (r.2.2.1.trans ht) (Or.inl ⟨n, rfl⟩) (Or.inl rfl) (Qw_end o h1 h2 hq) h2.2.2 hd r.2.2.2
theorem stk_map (r : Option Value) (st : List Value) : (r.map (cvv w)).toList ++ st.map (cvv w) = (r.toList ++ st).map (cvv w) := by
  cases r <;> simp
theorem V_run {st0 : List Value} {a : Array Value} (hr : ∀ H locs la, WH S w σ H → lv_has la M.2.2.1 (ls.map (cvl w)) → va_Run x.p w.l x.e x.R x.s x.m x.a x.b x.me x.c H locs cn.1 cn.2 0 0 (F0 x.m pc la (st0.map (cvv w))) (st.map (cvv w)) (Qw S w Q a) (Aw w))
    (k : ∀ r σ', Q r σ' → V S w x M cn (pc + 3) ls (r.toList ++ st) σ') : V S w x M cn pc ls st0 σ := by
  intro H locs la h1 h2 h3 T hT X
  obtain ⟨v, st₀, t, T', L, h0, X', hL, e1, e2, ⟨r, σ', hv, hq, ⟨hP, -, -⟩, hz, hk⟩, st⟩ := hr H locs la h1 h3 T hT X
  cases hv
  rw [h0] at hz hk
  have hS : va_S (Aw w) x.s.heap T'.heap (locs ++ L) := ⟨Nat.le_trans h2.1 (by rw [e1]; exact hz), fun q g1 g2 => by rw [e1, hk q (Nat.lt_of_lt_of_le g1 h2.1) g2]; exact h2.2.1 q g1 g2, fun q hq => by
    rcases List.mem_append.mp hq with h | h
    · exact h2.2.2 q h
    · exact hL q h⟩
  obtain ⟨t2, a1, b1⟩ := k r σ' hq T'.heap (locs ++ L) la (by rw [e1]; exact hP) hS h3 T' rfl X'
  refine ⟨t2, st t2 ?_, b1⟩
  rw [← stk_map] at a1
  exact a1
theorem Pw_at {H : Heap} (o : Ok S w x own M) (h1 : WH S w σ H) {as : List Value} : ∀ U : State, U.heap = H → x.s.WarmedH U.vm → va_Pc as (Pw S w σ) as.toArray U :=
  fun U hU hW => ⟨rfl, by rw [hU]; exact h1, va_K.moved hW.alike o.2.2.1, nws_warm hW o.2.2.2⟩
/-- links of calls: the callee's code stands, it has so many parameters -/
def Lc (M' : Md) (n : Nat) : Prop := Cond.code M'.1 M'.2.1 M'.2.2.1 M'.2.2.2 ∈ gw ∧ M'.1.cls ≠ "java/lang/invoke/MethodHandle" ∧ M'.1.cls ≠ "java/lang/invoke/VarHandle" ∧ (parseMethodDescriptor M'.1.desc).map (fun d => d.parameters.length) = some n
def LV (own : String) (idx ci : Nat) (M' : Md) (n : Nat) : Prop := ci < 10 ∧ Lc M' n ∧ M'.1.cls = RXn ci ∧ Cond.methodLink own idx M'.1 ∈ gw ∧ Cond.instanceMethod M'.1 ∈ gw ∧ Cond.selects (RXn ci) M'.1 M'.1 ∈ gw ∧ Cond.initialized (RXn ci) ∈ gw
def Lst (own : String) (idx : Nat) (M' : Md) (n : Nat) : Prop := Lc M' n ∧ Cond.methodLink own idx M'.1 ∈ gw ∧ Cond.static M'.1 ∈ gw ∧ Cond.initialized M'.1.cls ∈ gw
def Lsn (own : String) (idx : Nat) (M' : Md) (n : Nat) : Prop := Lc M' n ∧ (∃ host, Cond.methodLinkNest own idx M'.1 host ∈ nws) ∧ Cond.static M'.1 ∈ gw ∧ Cond.initialized M'.1.cls ∈ gw
theorem good_ws {M' : Md} {n : Nat} (h : Lc M' n) : GoodIn gw (Cond.code M'.1 M'.2.1 M'.2.2.1 M'.2.2.2 :: gw) := fun q hq => by
  rcases List.mem_cons.mp hq with rfl | hq
  · exact ⟨h.1, gw_good h.1⟩
  · exact ⟨hq, gw_good hq⟩
theorem callB_x {R : Room} {idx n d' : Nat} {M' : Md} (o : Ok S w x own M) (hl : Lc M' n) (hm : Cond.methodLink own idx M'.1 ∈ gw) (hi : Cond.initialized M'.1.cls ∈ gw) (hR : d' + 1 ≤ R.frames ∧ 8 + (M'.2.2.1 + 11) + 40 * d' ≤ R.locals) :
    CallB R x.s x.a own idx M'.1 M'.2.1 M'.2.2.1 M'.2.2.2 (Cond.code M'.1 M'.2.1 M'.2.2.1 M'.2.2.2 :: gw) (Rm d') 0 0 n :=
  callB_of (rm := Rm d') n o.2.1.2.2.2.2 (good_ws hl) rfl rfl rfl (o.2.1.2.2.2.2 _ hi) (o.2.1.2.2.2.2 _ hm) hl.2 hR
theorem V_callVx {idx ci a n d' : Nat} {M' : Md} {As st0 : List Value} (o : Ok S w x own M) (hd : decode M.2.1 pc = .ok (.invokevirtual idx, 3)) (hl : LV own idx ci M' n) (hc : Ct S w d' M' (.ref a :: As) σ Q) (hk : S.2.1 a = ci) (hn : As.length = n) (hst : st0 = As.reverse ++ .ref a :: st)
    (hs : (st.map Value.category).sum ≤ 8) (hR : d' + 1 ≤ x.R.frames ∧ 8 + (M'.2.2.1 + 11) + 40 * d' ≤ x.R.locals) (hcs : cn.1 ≤ x.R.cells ∧ cn.2 ≤ x.R.slots)
    (k : ∀ r σ', Q r σ' → V S w x M cn (pc + 3) ls (r.toList ++ st) σ') : V S w x M cn pc ls st0 σ := by
  refine V_run (a := ((Value.ref (w.ad a)) :: As.map (cvv w)).toArray) (fun H locs la h1 h3 => ?_) k
  obtain ⟨hc10, hlc, hcl, hml, hin, hse, hi⟩ := hl
  have ha : a ∈ S.1 := o.1.2.1 a (by rw [hk]; exact Nat.lt_of_lt_of_le hc10 (by decide))
  obtain ⟨q, hq⟩ := Wws_get o.1 σ ha
  rw [cll_obj hk hc10] at hq
  have hrec := va_recv o.2.2.1 h1 (vwCl_at hc10) hq
  have hcat : ((st.map (cvv w)).map fun v => v.category).sum ≤ 8 := by
    rw [List.map_map]
    have e : ((fun v : Value => v.category) ∘ cvv w) = Value.category := by funext v; exact cvv_cat w v
    rw [e]; exact hs
  exact va_runV (As := As.map (cvv w)) (rest := st.map (cvv w)) (b := w.ad a) (C := RXn ci) o.2.1 hc ⟨callB_x o hlc hml (by rw [hcl]; exact hi) hR, o.2.1.2.2.2.2 _ hin, o.2.1.2.2.2.2 _ hse⟩ ⟨blind, hrec, Pw_at o h1⟩ rfl (by simpa using hn) h3.1 (by subst hst; simp [cvv]) (lv_room hcat) hd hcs
theorem V_callSx {idx n d' : Nat} {M' : Md} {As st0 : List Value} (o : Ok S w x own M) (hd : decode M.2.1 pc = .ok (.invokestatic idx, 3)) (hl : Lst own idx M' n) (hc : Ct S w d' M' As σ Q) (hn : As.length = n) (hst : st0 = As.reverse ++ st)
    (hs : (st.map Value.category).sum ≤ 8) (hR : d' + 1 ≤ x.R.frames ∧ 8 + (M'.2.2.1 + 11) + 40 * d' ≤ x.R.locals) (hcs : cn.1 ≤ x.R.cells ∧ cn.2 ≤ x.R.slots)
    (k : ∀ r σ', Q r σ' → V S w x M cn (pc + 3) ls (r.toList ++ st) σ') : V S w x M cn pc ls st0 σ := by
  refine V_run (a := (As.map (cvv w)).toArray) (fun H locs la h1 h3 => ?_) k
  obtain ⟨hlc, hml, hsta, hi⟩ := hl
  have hcat : ((st.map (cvv w)).map fun v => v.category).sum ≤ 8 := by
    rw [List.map_map]
    have e : ((fun v : Value => v.category) ∘ cvv w) = Value.category := by funext v; exact cvv_cat w v
    rw [e]; exact hs
  exact va_runS (As := As.map (cvv w)) (rest := st.map (cvv w)) o.2.1 hc ⟨callB_x o hlc hml hi hR, o.2.1.2.2.2.2 _ hsta⟩ ⟨blind, Pw_at o h1⟩ rfl (by simpa using hn) h3.1 (by subst hst; simp) (lv_room hcat) hd hcs
theorem V_callSNx {idx n d' : Nat} {M' : Md} {As st0 : List Value} (o : Ok S w x own M) (hd : decode M.2.1 pc = .ok (.invokestatic idx, 3)) (hl : Lsn own idx M' n) (hc : Ct S w d' M' As σ Q) (hn : As.length = n) (hst : st0 = As.reverse ++ st)
    (hs : (st.map Value.category).sum ≤ 8) (hR : d' + 1 ≤ x.R.frames ∧ 8 + (M'.2.2.1 + 11) + 40 * d' ≤ x.R.locals) (hcs : cn.1 ≤ x.R.cells ∧ cn.2 ≤ x.R.slots)
    (k : ∀ r σ', Q r σ' → V S w x M cn (pc + 3) ls (r.toList ++ st) σ') : V S w x M cn pc ls st0 σ := by
  refine V_run (a := (As.map (cvv w)).toArray) (fun H locs la h1 h3 => ?_) k
  obtain ⟨hlc, ⟨host, hml⟩, hsta, hi⟩ := hl
  have hcat : ((st.map (cvv w)).map fun v => v.category).sum ≤ 8 := by
    rw [List.map_map]
    have e : ((fun v : Value => v.category) ∘ cvv w) = Value.category := by funext v; exact cvv_cat w v
    rw [e]; exact hs
  exact va_runSN (As := As.map (cvv w)) (rest := st.map (cvv w)) (host := host) o.2.1 hc ⟨va_cnB (rm := Rm d') n o.2.1.2.2.2.2 (good_ws hlc) rfl rfl rfl (o.2.2.2 _ hml) (o.2.1.2.2.2.2 _ hi) hlc.2 hR, o.2.1.2.2.2.2 _ hsta, trivial⟩ ⟨blind, Pw_at o h1⟩ rfl (by simpa using hn) h3.1 (by subst hst; simp) (lv_room hcat) hd hcs
theorem Rt_room {d' n : Nat} (r : Rt S w x d M Q) (h : (Nat.ble (d' + 1) d && Nat.ble (8 + (n + 11) + 40 * d') (40 * d)) = true) : d' + 1 ≤ x.R.frames ∧ 8 + (n + 11) + 40 * d' ≤ x.R.locals := by
  rw [r.1]
  rw [Bool.and_eq_true] at h
  exact ⟨Nat.le_of_ble_eq_true h.1, Nat.le_of_ble_eq_true h.2⟩
theorem Rt_cells (r : Rt S w x d M Q) : ((0, 0) : Nat × Nat).1 ≤ x.R.cells ∧ ((0, 0) : Nat × Nat).2 ≤ x.R.slots := ⟨Nat.zero_le _, Nat.zero_le _⟩
/-- calls from a method -/
theorem V_callV {idx ci a n d' : Nat} {M' : Md} {As st0 : List Value} {Q' : Option Value → Mm → Prop} (o : Ok S w x own M) (r : Rt S w x d M Q') (hd : decode M.2.1 pc = .ok (.invokevirtual idx, 3)) (hl : LV own idx ci M' n) (hc : Ct S w d' M' (.ref a :: As) σ Q) (hk : S.2.1 a = ci) (hn : As.length = n) (hst : st0 = As.reverse ++ .ref a :: st)
    (hs : (st.map Value.category).sum ≤ 8) (hR : (Nat.ble (d' + 1) d && Nat.ble (8 + (M'.2.2.1 + 11) + 40 * d') (40 * d)) = true)
    (k : ∀ r σ', Q r σ' → V S w x M (0, 0) (pc + 3) ls (r.toList ++ st) σ') : V S w x M (0, 0) pc ls st0 σ := V_callVx o hd hl hc hk hn hst hs (Rt_room r hR) (Rt_cells r) k
theorem V_callS {idx n d' : Nat} {M' : Md} {As st0 : List Value} {Q' : Option Value → Mm → Prop} (o : Ok S w x own M) (r : Rt S w x d M Q') (hd : decode M.2.1 pc = .ok (.invokestatic idx, 3)) (hl : Lst own idx M' n) (hc : Ct S w d' M' As σ Q) (hn : As.length = n) (hst : st0 = As.reverse ++ st)
    (hs : (st.map Value.category).sum ≤ 8) (hR : (Nat.ble (d' + 1) d && Nat.ble (8 + (M'.2.2.1 + 11) + 40 * d') (40 * d)) = true)
    (k : ∀ r σ', Q r σ' → V S w x M (0, 0) (pc + 3) ls (r.toList ++ st) σ') : V S w x M (0, 0) pc ls st0 σ := V_callSx o hd hl hc hn hst hs (Rt_room r hR) (Rt_cells r) k
theorem V_callSN {idx n d' : Nat} {M' : Md} {As st0 : List Value} {Q' : Option Value → Mm → Prop} (o : Ok S w x own M) (r : Rt S w x d M Q') (hd : decode M.2.1 pc = .ok (.invokestatic idx, 3)) (hl : Lsn own idx M' n) (hc : Ct S w d' M' As σ Q) (hn : As.length = n) (hst : st0 = As.reverse ++ st)
    (hs : (st.map Value.category).sum ≤ 8) (hR : (Nat.ble (d' + 1) d && Nat.ble (8 + (M'.2.2.1 + 11) + 40 * d') (40 * d)) = true)
    (k : ∀ r σ', Q r σ' → V S w x M (0, 0) (pc + 3) ls (r.toList ++ st) σ') : V S w x M (0, 0) pc ls st0 σ := V_callSNx o hd hl hc hn hst hs (Rt_room r hR) (Rt_cells r) k
end CALL
end
section
abbrev mX0_init : Md := (yX0_init, cX0_init, 1, none)
abbrev mX0_readsAll : Md := (yX0_readsAll, cX0_readsAll, 2, (some .boolean))
abbrev mX0_readsAct : Md := (yX0_readsAct, cX0_readsAct, 3, (some .boolean))
abbrev mX0_readsSet : Md := (yX0_readsSet, cX0_readsSet, 3, (some .boolean))
abbrev mX0_readsLeap : Md := (yX0_readsLeap, cX0_readsLeap, 3, (some .boolean))
abbrev mX0_keepsNumber : Md := (yX0_keepsNumber, cX0_keepsNumber, 1, (some .boolean))
abbrev mX0_readsNumber : Md := (yX0_readsNumber, cX0_readsNumber, 6, (some .boolean))
abbrev mX0_readsSign : Md := (yX0_readsSign, cX0_readsSign, 3, (some .boolean))
abbrev mX0_isDigit : Md := (yX0_isDigit, cX0_isDigit, 1, (some .boolean))
abbrev mX0_fails : Md := (yX0_fails, cX0_fails, 2, (some .boolean))
abbrev mX1_init : Md := (yX1_init, cX1_init, 1, none)
abbrev mX1_empty : Md := (yX1_empty, cX1_empty, 1, none)
abbrev mX1_at : Md := (yX1_at, cX1_at, 2, (some (.object "DueWheels$Timer")))
abbrev mX1_join : Md := (yX1_join, cX1_join, 6, none)
abbrev mX2_init : Md := (yX2_init, cX2_init, 1, none)
abbrev mX2_keep : Md := (yX2_keep, cX2_keep, 3, none)
abbrev mX2_placeOf : Md := (yX2_placeOf, cX2_placeOf, 2, (some .int))
abbrev mX3_init : Md := (yX3_init, cX3_init, 1, none)
abbrev mX3_empty : Md := (yX3_empty, cX3_empty, 1, none)
abbrev mX3_put : Md := (yX3_put, cX3_put, 3, none)
abbrev mX4_init : Md := (yX4_init, cX4_init, 1, none)
abbrev mX4_isPossible : Md := (yX4_isPossible, cX4_isPossible, 6, (some .boolean))
abbrev mX4_isSize : Md := (yX4_isSize, cX4_isSize, 1, (some .boolean))
abbrev mX4_isSizeOrNone : Md := (yX4_isSizeOrNone, cX4_isSizeOrNone, 1, (some .boolean))
abbrev mX4_isOf : Md := (yX4_isOf, cX4_isOf, 5, (some .boolean))
abbrev mX4_become : Md := (yX4_become, cX4_become, 7, none)
abbrev mX4_copy : Md := (yX4_copy, cX4_copy, 2, none)
abbrev mX4_hasLevel : Md := (yX4_hasLevel, cX4_hasLevel, 2, (some .boolean))
abbrev mX4_sizeOf : Md := (yX4_sizeOf, cX4_sizeOf, 2, (some .int))
abbrev mX4_spanOf : Md := (yX4_spanOf, cX4_spanOf, 2, (some .int))
abbrev mX4_levelFor : Md := (yX4_levelFor, cX4_levelFor, 3, (some .int))
abbrev mX4_slotFor : Md := (yX4_slotFor, cX4_slotFor, 3, (some .int))
abbrev mX4_turnTime : Md := (yX4_turnTime, cX4_turnTime, 4, (some .int))
abbrev mX4_movesFrom : Md := (yX4_movesFrom, cX4_movesFrom, 6, (some .int))
abbrev mX5_init : Md := (yX5_init, cX5_init, 1, none)
abbrev mX5_append : Md := (yX5_append, cX5_append, 3, (some .boolean))
abbrev mX5_shorten : Md := (yX5_shorten, cX5_shorten, 2, none)
abbrev mX5_at : Md := (yX5_at, cX5_at, 2, (some .int))
abbrev mX6_init : Md := (yX6_init, cX6_init, 2, none)
abbrev mX6_start : Md := (yX6_start, cX6_start, 3, none)
abbrev mX6_copy : Md := (yX6_copy, cX6_copy, 2, none)
abbrev mX6_isAhead : Md := (yX6_isAhead, cX6_isAhead, 4, (some .boolean))
abbrev mX7_init : Md := (yX7_init, cX7_init, 2, none)
abbrev mX7_copy : Md := (yX7_copy, cX7_copy, 5, none)
abbrev mX7_find : Md := (yX7_find, cX7_find, 3, (some (.object "DueWheels$Timer")))
abbrev mX7_findRunning : Md := (yX7_findRunning, cX7_findRunning, 3, (some (.object "DueWheels$Timer")))
abbrev mX7_leastFree : Md := (yX7_leastFree, cX7_leastFree, 3, (some (.object "DueWheels$Timer")))
abbrev mX7_firstDue : Md := (yX7_firstDue, cX7_firstDue, 4, (some (.object "DueWheels$Timer")))
abbrev mX7_countSet : Md := (yX7_countSet, cX7_countSet, 3, (some .int))
abbrev mX7_countOn : Md := (yX7_countOn, cX7_countOn, 5, (some .int))
abbrev mX7_countIn : Md := (yX7_countIn, cX7_countIn, 6, (some .int))
abbrev mX7_lay : Md := (yX7_lay, cX7_lay, 2, none)
abbrev mX7_layAll : Md := (yX7_layAll, cX7_layAll, 3, none)
abbrev mX7_pause : Md := (yX7_pause, cX7_pause, 2, none)
abbrev mX7_resume : Md := (yX7_resume, cX7_resume, 2, none)
abbrev mX7_tick : Md := (yX7_tick, cX7_tick, 4, none)
abbrev mX7_leap : Md := (yX7_leap, cX7_leap, 4, none)
abbrev mX7_bringFarOnes : Md := (yX7_bringFarOnes, cX7_bringFarOnes, 3, none)
abbrev mX7_moveFrom : Md := (yX7_moveFrom, cX7_moveFrom, 5, none)
abbrev mX7_ringLine : Md := (yX7_ringLine, cX7_ringLine, 3, none)
abbrev mX7_ring : Md := (yX7_ring, cX7_ring, 2, none)
abbrev mX7_catchUp : Md := (yX7_catchUp, cX7_catchUp, 3, none)
abbrev mX8_init : Md := (yX8_init, cX8_init, 1, none)
abbrev mX8_wheels : Md := (yX8_wheels, cX8_wheels, 5, (some .int))
abbrev mX8_order : Md := (yX8_order, cX8_order, 3, (some .int))
abbrev mX8_ticks : Md := (yX8_ticks, cX8_ticks, 5, (some .int))
abbrev mX8_leaps : Md := (yX8_leaps, cX8_leaps, 4, (some .int))
abbrev mX8_sets : Md := (yX8_sets, cX8_sets, 8, (some .int))
abbrev mX8_cancels : Md := (yX8_cancels, cX8_cancels, 3, (some .int))
abbrev mX8_cancelsAll : Md := (yX8_cancelsAll, cX8_cancelsAll, 5, (some .int))
abbrev mX8_steady : Md := (yX8_steady, cX8_steady, 4, (some .int))
abbrev mX8_pauses : Md := (yX8_pauses, cX8_pauses, 3, (some .int))
abbrev mX8_resumes : Md := (yX8_resumes, cX8_resumes, 3, (some .int))
abbrev mX8_holds : Md := (yX8_holds, cX8_holds, 5, (some .int))
abbrev mX8_goesOn : Md := (yX8_goesOn, cX8_goesOn, 5, (some .int))
abbrev mX8_spreads : Md := (yX8_spreads, cX8_spreads, 6, (some .int))
abbrev mX8_delays : Md := (yX8_delays, cX8_delays, 5, (some .int))
abbrev mX8_run : Md := (yX8_run, cX8_run, 4, (some .int))
abbrev mX8_sign : Md := (yX8_sign, cX8_sign, 2, (some .int))
abbrev mX8_end : Md := (yX8_end, cX8_end, 2, (some .boolean))
abbrev mX8_timer : Md := (yX8_timer, cX8_timer, 4, (some .int))
abbrev mX8_slot : Md := (yX8_slot, cX8_slot, 6, (some .int))
abbrev mX8_far : Md := (yX8_far, cX8_far, 4, (some .int))
abbrev mX8_group : Md := (yX8_group, cX8_group, 4, (some .int))
abbrev mX8_full : Md := (yX8_full, cX8_full, 5, (some .int))
abbrev mX8_next : Md := (yX8_next, cX8_next, 5, (some .int))
abbrev mX8_rings : Md := (yX8_rings, cX8_rings, 5, (some .int))
abbrev mX8_quiet : Md := (yX8_quiet, cX8_quiet, 7, (some .int))
abbrev mX8_moves : Md := (yX8_moves, cX8_moves, 3, (some .int))
abbrev mX8_cost : Md := (yX8_cost, cX8_cost, 10, (some .int))
abbrev mX8_best : Md := (yX8_best, cX8_best, 6, (some .int))
abbrev mX8_ahead : Md := (yX8_ahead, cX8_ahead, 6, (some .int))
abbrev mX8_way : Md := (yX8_way, cX8_way, 7, (some .int))
abbrev mX8_would : Md := (yX8_would, cX8_would, 5, (some .int))
abbrev mX8_busiest : Md := (yX8_busiest, cX8_busiest, 8, (some .int))
abbrev mX8_till : Md := (yX8_till, cX8_till, 5, (some .int))
abbrev mX8_loudest : Md := (yX8_loudest, cX8_loudest, 6, (some .int))
abbrev mX8_clashes : Md := (yX8_clashes, cX8_clashes, 5, (some .int))
abbrev mX8_rung : Md := (yX8_rung, cX8_rung, 3, (some .int))
abbrev mX8_told : Md := (yX8_told, cX8_told, 2, (some .int))
abbrev mX8_count : Md := (yX8_count, cX8_count, 2, (some .int))
abbrev mX8_row : Md := (yX8_row, cX8_row, 2, (some .long))
abbrev mX8_isWithin : Md := (yX8_isWithin, cX8_isWithin, 3, (some .boolean))
abbrev mX8_isGroup : Md := (yX8_isGroup, cX8_isGroup, 1, (some .boolean))
abbrev mX8_isMultiple : Md := (yX8_isMultiple, cX8_isMultiple, 2, (some .boolean))
abbrev mX8_numberOf : Md := (yX8_numberOf, cX8_numberOf, 1, (some .int))
abbrev mX8_refusalOfTicks : Md := (yX8_refusalOfTicks, cX8_refusalOfTicks, 2, (some .int))
abbrev mX8_refusalOfLeap : Md := (yX8_refusalOfLeap, cX8_refusalOfLeap, 2, (some .int))
abbrev mX8_keepWhatRang : Md := (yX8_keepWhatRang, cX8_keepWhatRang, 4, (some .int))
abbrev mX8_tellLatest : Md := (yX8_tellLatest, cX8_tellLatest, 6, none)
abbrev mX8_tellLine : Md := (yX8_tellLine, cX8_tellLine, 3, none)
abbrev mX8_tellWhatRings : Md := (yX8_tellWhatRings, cX8_tellWhatRings, 3, none)
abbrev mX8_putApart : Md := (yX8_putApart, cX8_putApart, 7, (some .int))
abbrev mX8_movesBy : Md := (yX8_movesBy, cX8_movesBy, 5, (some .int))
abbrev mX8_countGroups : Md := (yX8_countGroups, cX8_countGroups, 4, none)
abbrev mX8_does : Md := (yX8_does, cX8_does, 3, (some .boolean))
abbrev mX9_thrown : Md := (yX9_thrown, cX9_thrown, 1, (some .int))
abbrev mX9_in : Md := (yX9_in, cX9_in, 6, (some .boolean))
abbrev mX9_flag : Md := (yX9_flag, cX9_flag, 1, (some .int))
abbrev mX9_enters : Md := (yX9_enters, cX9_enters, 3, none)
abbrev mX9_sign : Md := (yX9_sign, cX9_sign, 3, (some .int))
abbrev mX9_end : Md := (yX9_end, cX9_end, 2, (some .boolean))
abbrev mX9_takes : Md := (yX9_takes, cX9_takes, 3, (some .boolean))
abbrev mX9_isDigit : Md := (yX9_isDigit, cX9_isDigit, 1, (some .boolean))
abbrev mX9_number : Md := (yX9_number, cX9_number, 6, (some .int))
abbrev mX9_init : Md := (yX9_init, cX9_init, 2, none)
abbrev mX9_of : Md := (yX9_of, cX9_of, 2, (some .int))
abbrev mX9_puts : Md := (yX9_puts, cX9_puts, 3, none)
abbrev mX9_more : Md := (yX9_more, cX9_more, 3, none)
abbrev mX9_tries : Md := (yX9_tries, cX9_tries, 2, none)
abbrev mX9_isBack : Md := (yX9_isBack, cX9_isBack, 1, none)
abbrev mX9_isTimer : Md := (yX9_isTimer, cX9_isTimer, 2, (some .boolean))
abbrev mX9_goes : Md := (yX9_goes, cX9_goes, 2, (some .boolean))
abbrev mX9_span : Md := (yX9_span, cX9_span, 4, (some .int))
abbrev mX9_whole : Md := (yX9_whole, cX9_whole, 1, (some .int))
abbrev mX9_levelFor : Md := (yX9_levelFor, cX9_levelFor, 3, (some .int))
abbrev mX9_lays : Md := (yX9_lays, cX9_lays, 3, none)
abbrev mX9_laysAll : Md := (yX9_laysAll, cX9_laysAll, 2, none)
abbrev mX9_moves1 : Md := (yX9_moves1, cX9_moves1, 2, none)
abbrev mX9_isAhead : Md := (yX9_isAhead, cX9_isAhead, 4, (some .boolean))
abbrev mX9_queues : Md := (yX9_queues, cX9_queues, 4, none)
abbrev mX9_isSooner : Md := (yX9_isSooner, cX9_isSooner, 4, (some .boolean))
abbrev mX9_keepsRung : Md := (yX9_keepsRung, cX9_keepsRung, 3, none)
abbrev mX9_comesAgain : Md := (yX9_comesAgain, cX9_comesAgain, 4, none)
abbrev mX9_ringsAll : Md := (yX9_ringsAll, cX9_ringsAll, 4, none)
abbrev mX9_tick : Md := (yX9_tick, cX9_tick, 5, none)
abbrev mX9_tellsLatest : Md := (yX9_tellsLatest, cX9_tellsLatest, 2, none)
abbrev mX9_tellsFirst : Md := (yX9_tellsFirst, cX9_tellsFirst, 2, none)
abbrev mX9_ticksOf : Md := (yX9_ticksOf, cX9_ticksOf, 3, (some .int))
abbrev mX9_leapsBy : Md := (yX9_leapsBy, cX9_leapsBy, 3, (some .int))
abbrev mX9_wishes : Md := (yX9_wishes, cX9_wishes, 8, (some .int))
abbrev mX9_isAsWished : Md := (yX9_isAsWished, cX9_isAsWished, 4, (some .boolean))
abbrev mX9_laysWished : Md := (yX9_laysWished, cX9_laysWished, 3, none)
abbrev mX9_wheels : Md := (yX9_wheels, cX9_wheels, 6, (some .int))
abbrev mX9_order : Md := (yX9_order, cX9_order, 3, (some .int))
abbrev mX9_ticks : Md := (yX9_ticks, cX9_ticks, 3, (some .int))
abbrev mX9_isLeap : Md := (yX9_isLeap, cX9_isLeap, 1, (some .boolean))
abbrev mX9_leaps : Md := (yX9_leaps, cX9_leaps, 3, (some .int))
abbrev mX9_many : Md := (yX9_many, cX9_many, 3, (some .int))
abbrev mX9_setsOne : Md := (yX9_setsOne, cX9_setsOne, 7, (some .int))
abbrev mX9_sets : Md := (yX9_sets, cX9_sets, 6, (some .int))
abbrev mX9_cancelsOne : Md := (yX9_cancelsOne, cX9_cancelsOne, 2, (some .int))
abbrev mX9_cancels : Md := (yX9_cancels, cX9_cancels, 2, (some .int))
abbrev mX9_cancelsAll : Md := (yX9_cancelsAll, cX9_cancelsAll, 5, (some .int))
abbrev mX9_steady : Md := (yX9_steady, cX9_steady, 4, (some .int))
abbrev mX9_pauses : Md := (yX9_pauses, cX9_pauses, 2, (some .int))
abbrev mX9_resumes : Md := (yX9_resumes, cX9_resumes, 2, (some .int))
abbrev mX9_delays : Md := (yX9_delays, cX9_delays, 5, (some .int))
abbrev mX9_isGroup : Md := (yX9_isGroup, cX9_isGroup, 1, (some .boolean))
abbrev mX9_pausesOne : Md := (yX9_pausesOne, cX9_pausesOne, 2, none)
abbrev mX9_resumesOne : Md := (yX9_resumesOne, cX9_resumesOne, 2, none)
abbrev mX9_holds : Md := (yX9_holds, cX9_holds, 4, (some .int))
abbrev mX9_goesOn : Md := (yX9_goesOn, cX9_goesOn, 4, (some .int))
abbrev mX9_spreads : Md := (yX9_spreads, cX9_spreads, 7, (some .int))
abbrev mX9_readsAct : Md := (yX9_readsAct, cX9_readsAct, 5, (some .boolean))
abbrev mX9_doesAct : Md := (yX9_doesAct, cX9_doesAct, 3, (some .int))
abbrev mX9_run : Md := (yX9_run, cX9_run, 5, (some .int))
abbrev mX9_timer : Md := (yX9_timer, cX9_timer, 4, (some .int))
abbrev mX9_tellsLine : Md := (yX9_tellsLine, cX9_tellsLine, 2, none)
abbrev mX9_slot : Md := (yX9_slot, cX9_slot, 4, (some .int))
abbrev mX9_far : Md := (yX9_far, cX9_far, 2, (some .int))
abbrev mX9_group : Md := (yX9_group, cX9_group, 3, (some .int))
abbrev mX9_full : Md := (yX9_full, cX9_full, 6, (some .int))
abbrev mX9_next : Md := (yX9_next, cX9_next, 3, (some .int))
abbrev mX9_rings : Md := (yX9_rings, cX9_rings, 3, (some .int))
abbrev mX9_quiet : Md := (yX9_quiet, cX9_quiet, 7, (some .int))
abbrev mX9_ways : Md := (yX9_ways, cX9_ways, 6, (some .int))
abbrev mX9_movesOf : Md := (yX9_movesOf, cX9_movesOf, 2, (some .int))
abbrev mX9_moves : Md := (yX9_moves, cX9_moves, 2, (some .int))
abbrev mX9_way : Md := (yX9_way, cX9_way, 4, (some .int))
abbrev mX9_costOf : Md := (yX9_costOf, cX9_costOf, 5, (some .int))
abbrev mX9_cost : Md := (yX9_cost, cX9_cost, 7, (some .int))
abbrev mX9_best : Md := (yX9_best, cX9_best, 6, (some .int))
abbrev mX9_ahead : Md := (yX9_ahead, cX9_ahead, 4, (some .int))
abbrev mX9_would : Md := (yX9_would, cX9_would, 5, (some .int))
abbrev mX9_busiest : Md := (yX9_busiest, cX9_busiest, 7, (some .int))
abbrev mX9_loudest : Md := (yX9_loudest, cX9_loudest, 5, (some .int))
abbrev mX9_clashes : Md := (yX9_clashes, cX9_clashes, 8, (some .int))
abbrev mX9_till : Md := (yX9_till, cX9_till, 6, (some .int))
abbrev mX9_rung : Md := (yX9_rung, cX9_rung, 4, (some .int))
abbrev mX9_told : Md := (yX9_told, cX9_told, 2, (some .int))
abbrev mX9_pausedMany : Md := (yX9_pausedMany, cX9_pausedMany, 3, (some .int))
abbrev mX9_farMany : Md := (yX9_farMany, cX9_farMany, 3, (some .int))
abbrev mX9_count : Md := (yX9_count, cX9_count, 2, (some .int))
abbrev mX9_row : Md := (yX9_row, cX9_row, 2, (some .long))
abbrev mJ9_floorMod_7cf53 : Md := (yJ9_floorMod_7cf53, cJ9_floorMod_7cf53, 3, (some .int))
abbrev mJ9_abs_0f7a4 : Md := (yJ9_abs_0f7a4, cJ9_abs_0f7a4, 1, (some .int))
abbrev mJ9_max_7cf53 : Md := (yJ9_max_7cf53, cJ9_max_7cf53, 2, (some .int))
abbrev mJ9_min_7cf53 : Md := (yJ9_min_7cf53, cJ9_min_7cf53, 2, (some .int))
abbrev mJ7_fill_53178 : Md := (yJ7_fill_53178, cJ7_fill_53178, 4, none)
theorem lc_X0_readsAll : Lc mX0_readsAll 1 := ⟨gw_at 569 (by decide +kernel) rfl, by decide +kernel, by decide +kernel, by decide +kernel⟩
theorem lc_X0_readsAct : Lc mX0_readsAct 1 := ⟨gw_at 573 (by decide +kernel) rfl, by decide +kernel, by decide +kernel, by decide +kernel⟩
theorem lc_X0_readsSet : Lc mX0_readsSet 1 := ⟨gw_at 585 (by decide +kernel) rfl, by decide +kernel, by decide +kernel, by decide +kernel⟩
theorem lc_X0_readsLeap : Lc mX0_readsLeap 1 := ⟨gw_at 605 (by decide +kernel) rfl, by decide +kernel, by decide +kernel, by decide +kernel⟩
theorem lc_X0_keepsNumber : Lc mX0_keepsNumber 0 := ⟨gw_at 597 (by decide +kernel) rfl, by decide +kernel, by decide +kernel, by decide +kernel⟩
theorem lc_X0_readsNumber : Lc mX0_readsNumber 4 := ⟨gw_at 589 (by decide +kernel) rfl, by decide +kernel, by decide +kernel, by decide +kernel⟩
theorem lc_X0_readsSign : Lc mX0_readsSign 2 := ⟨gw_at 601 (by decide +kernel) rfl, by decide +kernel, by decide +kernel, by decide +kernel⟩
theorem lc_X0_isDigit : Lc mX0_isDigit 1 := ⟨gw_at 592 (by decide +kernel) rfl, by decide +kernel, by decide +kernel, by decide +kernel⟩
theorem lc_X0_fails : Lc mX0_fails 1 := ⟨gw_at 581 (by decide +kernel) rfl, by decide +kernel, by decide +kernel, by decide +kernel⟩
theorem lc_X1_empty : Lc mX1_empty 0 := ⟨gw_at 416 (by decide +kernel) rfl, by decide +kernel, by decide +kernel, by decide +kernel⟩
theorem lc_X1_at : Lc mX1_at 1 := ⟨gw_at 432 (by decide +kernel) rfl, by decide +kernel, by decide +kernel, by decide +kernel⟩
theorem lc_X1_join : Lc mX1_join 3 := ⟨gw_at 420 (by decide +kernel) rfl, by decide +kernel, by decide +kernel, by decide +kernel⟩
theorem lc_X2_keep : Lc mX2_keep 2 := ⟨gw_at 452 (by decide +kernel) rfl, by decide +kernel, by decide +kernel, by decide +kernel⟩
theorem lc_X2_placeOf : Lc mX2_placeOf 1 := ⟨gw_at 466 (by decide +kernel) rfl, by decide +kernel, by decide +kernel, by decide +kernel⟩
theorem lc_X3_empty : Lc mX3_empty 0 := ⟨gw_at 461 (by decide +kernel) rfl, by decide +kernel, by decide +kernel, by decide +kernel⟩
theorem lc_X3_put : Lc mX3_put 1 := ⟨gw_at 474 (by decide +kernel) rfl, by decide +kernel, by decide +kernel, by decide +kernel⟩
theorem lc_X4_isPossible : Lc mX4_isPossible 4 := ⟨gw_at 337 (by decide +kernel) rfl, by decide +kernel, by decide +kernel, by decide +kernel⟩
theorem lc_X4_isSize : Lc mX4_isSize 1 := ⟨gw_at 340 (by decide +kernel) rfl, by decide +kernel, by decide +kernel, by decide +kernel⟩
theorem lc_X4_isSizeOrNone : Lc mX4_isSizeOrNone 1 := ⟨gw_at 346 (by decide +kernel) rfl, by decide +kernel, by decide +kernel, by decide +kernel⟩
theorem lc_X4_isOf : Lc mX4_isOf 4 := ⟨gw_at 350 (by decide +kernel) rfl, by decide +kernel, by decide +kernel, by decide +kernel⟩
theorem lc_X4_become : Lc mX4_become 4 := ⟨gw_at 157 (by decide +kernel) rfl, by decide +kernel, by decide +kernel, by decide +kernel⟩
theorem lc_X4_copy : Lc mX4_copy 1 := ⟨gw_at 681 (by decide +kernel) rfl, by decide +kernel, by decide +kernel, by decide +kernel⟩
theorem lc_X4_hasLevel : Lc mX4_hasLevel 1 := ⟨gw_at 637 (by decide +kernel) rfl, by decide +kernel, by decide +kernel, by decide +kernel⟩
theorem lc_X4_sizeOf : Lc mX4_sizeOf 1 := ⟨gw_at 354 (by decide +kernel) rfl, by decide +kernel, by decide +kernel, by decide +kernel⟩
theorem lc_X4_spanOf : Lc mX4_spanOf 1 := ⟨gw_at 408 (by decide +kernel) rfl, by decide +kernel, by decide +kernel, by decide +kernel⟩
theorem lc_X4_levelFor : Lc mX4_levelFor 1 := ⟨gw_at 375 (by decide +kernel) rfl, by decide +kernel, by decide +kernel, by decide +kernel⟩
theorem lc_X4_slotFor : Lc mX4_slotFor 2 := ⟨gw_at 379 (by decide +kernel) rfl, by decide +kernel, by decide +kernel, by decide +kernel⟩
theorem lc_X4_turnTime : Lc mX4_turnTime 2 := ⟨gw_at 706 (by decide +kernel) rfl, by decide +kernel, by decide +kernel, by decide +kernel⟩
theorem lc_X4_movesFrom : Lc mX4_movesFrom 2 := ⟨gw_at 702 (by decide +kernel) rfl, by decide +kernel, by decide +kernel, by decide +kernel⟩
theorem lc_X5_append : Lc mX5_append 1 := ⟨gw_at 625 (by decide +kernel) rfl, by decide +kernel, by decide +kernel, by decide +kernel⟩
theorem lc_X5_shorten : Lc mX5_shorten 1 := ⟨gw_at 609 (by decide +kernel) rfl, by decide +kernel, by decide +kernel, by decide +kernel⟩
theorem lc_X5_at : Lc mX5_at 1 := ⟨gw_at 577 (by decide +kernel) rfl, by decide +kernel, by decide +kernel, by decide +kernel⟩
theorem lc_X6_start : Lc mX6_start 2 := ⟨gw_at 504 (by decide +kernel) rfl, by decide +kernel, by decide +kernel, by decide +kernel⟩
theorem lc_X6_copy : Lc mX6_copy 1 := ⟨gw_at 686 (by decide +kernel) rfl, by decide +kernel, by decide +kernel, by decide +kernel⟩
theorem lc_X6_isAhead : Lc mX6_isAhead 3 := ⟨gw_at 424 (by decide +kernel) rfl, by decide +kernel, by decide +kernel, by decide +kernel⟩
theorem lc_X7_copy : Lc mX7_copy 1 := ⟨gw_at 677 (by decide +kernel) rfl, by decide +kernel, by decide +kernel, by decide +kernel⟩
theorem lc_X7_find : Lc mX7_find 1 := ⟨gw_at 367 (by decide +kernel) rfl, by decide +kernel, by decide +kernel, by decide +kernel⟩
theorem lc_X7_findRunning : Lc mX7_findRunning 1 := ⟨gw_at 363 (by decide +kernel) rfl, by decide +kernel, by decide +kernel, by decide +kernel⟩
theorem lc_X7_leastFree : Lc mX7_leastFree 0 := ⟨gw_at 500 (by decide +kernel) rfl, by decide +kernel, by decide +kernel, by decide +kernel⟩
theorem lc_X7_firstDue : Lc mX7_firstDue 0 := ⟨gw_at 669 (by decide +kernel) rfl, by decide +kernel, by decide +kernel, by decide +kernel⟩
theorem lc_X7_countSet : Lc mX7_countSet 0 := ⟨gw_at 514 (by decide +kernel) rfl, by decide +kernel, by decide +kernel, by decide +kernel⟩
theorem lc_X7_countOn : Lc mX7_countOn 1 := ⟨gw_at 777 (by decide +kernel) rfl, by decide +kernel, by decide +kernel, by decide +kernel⟩
theorem lc_X7_countIn : Lc mX7_countIn 2 := ⟨gw_at 661 (by decide +kernel) rfl, by decide +kernel, by decide +kernel, by decide +kernel⟩
theorem lc_X7_lay : Lc mX7_lay 1 := ⟨gw_at 371 (by decide +kernel) rfl, by decide +kernel, by decide +kernel, by decide +kernel⟩
theorem lc_X7_layAll : Lc mX7_layAll 0 := ⟨gw_at 359 (by decide +kernel) rfl, by decide +kernel, by decide +kernel, by decide +kernel⟩
theorem lc_X7_pause : Lc mX7_pause 1 := ⟨gw_at 530 (by decide +kernel) rfl, by decide +kernel, by decide +kernel, by decide +kernel⟩
theorem lc_X7_resume : Lc mX7_resume 1 := ⟨gw_at 538 (by decide +kernel) rfl, by decide +kernel, by decide +kernel, by decide +kernel⟩
theorem lc_X7_tick : Lc mX7_tick 0 := ⟨gw_at 397 (by decide +kernel) rfl, by decide +kernel, by decide +kernel, by decide +kernel⟩
theorem lc_X7_leap : Lc mX7_leap 1 := ⟨gw_at 488 (by decide +kernel) rfl, by decide +kernel, by decide +kernel, by decide +kernel⟩
theorem lc_X7_bringFarOnes : Lc mX7_bringFarOnes 0 := ⟨gw_at 404 (by decide +kernel) rfl, by decide +kernel, by decide +kernel, by decide +kernel⟩
theorem lc_X7_moveFrom : Lc mX7_moveFrom 2 := ⟨gw_at 412 (by decide +kernel) rfl, by decide +kernel, by decide +kernel, by decide +kernel⟩
theorem lc_X7_ringLine : Lc mX7_ringLine 0 := ⟨gw_at 428 (by decide +kernel) rfl, by decide +kernel, by decide +kernel, by decide +kernel⟩
theorem lc_X7_ring : Lc mX7_ring 1 := ⟨gw_at 436 (by decide +kernel) rfl, by decide +kernel, by decide +kernel, by decide +kernel⟩
theorem lc_X7_catchUp : Lc mX7_catchUp 1 := ⟨gw_at 440 (by decide +kernel) rfl, by decide +kernel, by decide +kernel, by decide +kernel⟩
theorem lc_X8_wheels : Lc mX8_wheels 4 := ⟨gw_at 334 (by decide +kernel) rfl, by decide +kernel, by decide +kernel, by decide +kernel⟩
theorem lc_X8_order : Lc mX8_order 1 := ⟨gw_at 383 (by decide +kernel) rfl, by decide +kernel, by decide +kernel, by decide +kernel⟩
theorem lc_X8_ticks : Lc mX8_ticks 1 := ⟨gw_at 388 (by decide +kernel) rfl, by decide +kernel, by decide +kernel, by decide +kernel⟩
theorem lc_X8_leaps : Lc mX8_leaps 1 := ⟨gw_at 478 (by decide +kernel) rfl, by decide +kernel, by decide +kernel, by decide +kernel⟩
theorem lc_X8_sets : Lc mX8_sets 5 := ⟨gw_at 493 (by decide +kernel) rfl, by decide +kernel, by decide +kernel, by decide +kernel⟩
theorem lc_X8_cancels : Lc mX8_cancels 1 := ⟨gw_at 509 (by decide +kernel) rfl, by decide +kernel, by decide +kernel, by decide +kernel⟩
theorem lc_X8_cancelsAll : Lc mX8_cancelsAll 1 := ⟨gw_at 518 (by decide +kernel) rfl, by decide +kernel, by decide +kernel, by decide +kernel⟩
theorem lc_X8_steady : Lc mX8_steady 2 := ⟨gw_at 522 (by decide +kernel) rfl, by decide +kernel, by decide +kernel, by decide +kernel⟩
theorem lc_X8_pauses : Lc mX8_pauses 1 := ⟨gw_at 526 (by decide +kernel) rfl, by decide +kernel, by decide +kernel, by decide +kernel⟩
theorem lc_X8_resumes : Lc mX8_resumes 1 := ⟨gw_at 534 (by decide +kernel) rfl, by decide +kernel, by decide +kernel, by decide +kernel⟩
theorem lc_X8_holds : Lc mX8_holds 1 := ⟨gw_at 542 (by decide +kernel) rfl, by decide +kernel, by decide +kernel, by decide +kernel⟩
theorem lc_X8_goesOn : Lc mX8_goesOn 1 := ⟨gw_at 547 (by decide +kernel) rfl, by decide +kernel, by decide +kernel, by decide +kernel⟩
theorem lc_X8_spreads : Lc mX8_spreads 2 := ⟨gw_at 551 (by decide +kernel) rfl, by decide +kernel, by decide +kernel, by decide +kernel⟩
theorem lc_X8_delays : Lc mX8_delays 2 := ⟨gw_at 561 (by decide +kernel) rfl, by decide +kernel, by decide +kernel, by decide +kernel⟩
theorem lc_X8_run : Lc mX8_run 0 := ⟨gw_at 565 (by decide +kernel) rfl, by decide +kernel, by decide +kernel, by decide +kernel⟩
theorem lc_X8_sign : Lc mX8_sign 1 := ⟨gw_at 621 (by decide +kernel) rfl, by decide +kernel, by decide +kernel, by decide +kernel⟩
theorem lc_X8_end : Lc mX8_end 1 := ⟨gw_at 629 (by decide +kernel) rfl, by decide +kernel, by decide +kernel, by decide +kernel⟩
theorem lc_X8_timer : Lc mX8_timer 2 := ⟨gw_at 785 (by decide +kernel) rfl, by decide +kernel, by decide +kernel, by decide +kernel⟩
theorem lc_X8_slot : Lc mX8_slot 2 := ⟨gw_at 633 (by decide +kernel) rfl, by decide +kernel, by decide +kernel, by decide +kernel⟩
theorem lc_X8_far : Lc mX8_far 0 := ⟨gw_at 649 (by decide +kernel) rfl, by decide +kernel, by decide +kernel, by decide +kernel⟩
theorem lc_X8_group : Lc mX8_group 1 := ⟨gw_at 653 (by decide +kernel) rfl, by decide +kernel, by decide +kernel, by decide +kernel⟩
theorem lc_X8_full : Lc mX8_full 1 := ⟨gw_at 657 (by decide +kernel) rfl, by decide +kernel, by decide +kernel, by decide +kernel⟩
theorem lc_X8_next : Lc mX8_next 0 := ⟨gw_at 665 (by decide +kernel) rfl, by decide +kernel, by decide +kernel, by decide +kernel⟩
theorem lc_X8_rings : Lc mX8_rings 1 := ⟨gw_at 673 (by decide +kernel) rfl, by decide +kernel, by decide +kernel, by decide +kernel⟩
theorem lc_X8_quiet : Lc mX8_quiet 1 := ⟨gw_at 694 (by decide +kernel) rfl, by decide +kernel, by decide +kernel, by decide +kernel⟩
theorem lc_X8_moves : Lc mX8_moves 1 := ⟨gw_at 698 (by decide +kernel) rfl, by decide +kernel, by decide +kernel, by decide +kernel⟩
theorem lc_X8_cost : Lc mX8_cost 4 := ⟨gw_at 712 (by decide +kernel) rfl, by decide +kernel, by decide +kernel, by decide +kernel⟩
theorem lc_X8_best : Lc mX8_best 1 := ⟨gw_at 724 (by decide +kernel) rfl, by decide +kernel, by decide +kernel, by decide +kernel⟩
theorem lc_X8_ahead : Lc mX8_ahead 2 := ⟨gw_at 728 (by decide +kernel) rfl, by decide +kernel, by decide +kernel, by decide +kernel⟩
theorem lc_X8_way : Lc mX8_way 1 := ⟨gw_at 733 (by decide +kernel) rfl, by decide +kernel, by decide +kernel, by decide +kernel⟩
theorem lc_X8_would : Lc mX8_would 1 := ⟨gw_at 738 (by decide +kernel) rfl, by decide +kernel, by decide +kernel, by decide +kernel⟩
theorem lc_X8_busiest : Lc mX8_busiest 1 := ⟨gw_at 743 (by decide +kernel) rfl, by decide +kernel, by decide +kernel, by decide +kernel⟩
theorem lc_X8_till : Lc mX8_till 1 := ⟨gw_at 747 (by decide +kernel) rfl, by decide +kernel, by decide +kernel, by decide +kernel⟩
theorem lc_X8_loudest : Lc mX8_loudest 1 := ⟨gw_at 751 (by decide +kernel) rfl, by decide +kernel, by decide +kernel, by decide +kernel⟩
theorem lc_X8_clashes : Lc mX8_clashes 1 := ⟨gw_at 761 (by decide +kernel) rfl, by decide +kernel, by decide +kernel, by decide +kernel⟩
theorem lc_X8_rung : Lc mX8_rung 1 := ⟨gw_at 765 (by decide +kernel) rfl, by decide +kernel, by decide +kernel, by decide +kernel⟩
theorem lc_X8_told : Lc mX8_told 1 := ⟨gw_at 769 (by decide +kernel) rfl, by decide +kernel, by decide +kernel, by decide +kernel⟩
theorem lc_X8_count : Lc mX8_count 1 := ⟨gw_at 773 (by decide +kernel) rfl, by decide +kernel, by decide +kernel, by decide +kernel⟩
theorem lc_X8_row : Lc mX8_row 1 := ⟨gw_at 853 (by decide +kernel) rfl, by decide +kernel, by decide +kernel, by decide +kernel⟩
theorem lc_X8_isWithin : Lc mX8_isWithin 3 := ⟨gw_at 343 (by decide +kernel) rfl, by decide +kernel, by decide +kernel, by decide +kernel⟩
theorem lc_X8_isGroup : Lc mX8_isGroup 1 := ⟨gw_at 496 (by decide +kernel) rfl, by decide +kernel, by decide +kernel, by decide +kernel⟩
theorem lc_X8_isMultiple : Lc mX8_isMultiple 2 := ⟨gw_at 400 (by decide +kernel) rfl, by decide +kernel, by decide +kernel, by decide +kernel⟩
theorem lc_X8_numberOf : Lc mX8_numberOf 1 := ⟨gw_at 645 (by decide +kernel) rfl, by decide +kernel, by decide +kernel, by decide +kernel⟩
theorem lc_X8_refusalOfTicks : Lc mX8_refusalOfTicks 1 := ⟨gw_at 392 (by decide +kernel) rfl, by decide +kernel, by decide +kernel, by decide +kernel⟩
theorem lc_X8_refusalOfLeap : Lc mX8_refusalOfLeap 1 := ⟨gw_at 482 (by decide +kernel) rfl, by decide +kernel, by decide +kernel, by decide +kernel⟩
theorem lc_X8_keepWhatRang : Lc mX8_keepWhatRang 0 := ⟨gw_at 447 (by decide +kernel) rfl, by decide +kernel, by decide +kernel, by decide +kernel⟩
theorem lc_X8_tellLatest : Lc mX8_tellLatest 2 := ⟨gw_at 457 (by decide +kernel) rfl, by decide +kernel, by decide +kernel, by decide +kernel⟩
theorem lc_X8_tellLine : Lc mX8_tellLine 1 := ⟨gw_at 642 (by decide +kernel) rfl, by decide +kernel, by decide +kernel, by decide +kernel⟩
theorem lc_X8_tellWhatRings : Lc mX8_tellWhatRings 1 := ⟨gw_at 690 (by decide +kernel) rfl, by decide +kernel, by decide +kernel, by decide +kernel⟩
theorem lc_X8_putApart : Lc mX8_putApart 2 := ⟨gw_at 557 (by decide +kernel) rfl, by decide +kernel, by decide +kernel, by decide +kernel⟩
theorem lc_X8_movesBy : Lc mX8_movesBy 1 := ⟨gw_at 720 (by decide +kernel) rfl, by decide +kernel, by decide +kernel, by decide +kernel⟩
theorem lc_X8_countGroups : Lc mX8_countGroups 2 := ⟨gw_at 757 (by decide +kernel) rfl, by decide +kernel, by decide +kernel, by decide +kernel⟩
theorem lc_X8_does : Lc mX8_does 1 := ⟨gw_at 613 (by decide +kernel) rfl, by decide +kernel, by decide +kernel, by decide +kernel⟩
theorem lc_X9_thrown : Lc mX9_thrown 0 := ⟨gw_at 857 (by decide +kernel) rfl, by decide +kernel, by decide +kernel, by decide +kernel⟩
theorem lc_X9_in : Lc mX9_in 3 := ⟨gw_at 868 (by decide +kernel) rfl, by decide +kernel, by decide +kernel, by decide +kernel⟩
theorem lc_X9_flag : Lc mX9_flag 1 := ⟨gw_at 1105 (by decide +kernel) rfl, by decide +kernel, by decide +kernel, by decide +kernel⟩
theorem lc_X9_enters : Lc mX9_enters 1 := ⟨gw_at 1053 (by decide +kernel) rfl, by decide +kernel, by decide +kernel, by decide +kernel⟩
theorem lc_X9_sign : Lc mX9_sign 1 := ⟨gw_at 861 (by decide +kernel) rfl, by decide +kernel, by decide +kernel, by decide +kernel⟩
theorem lc_X9_end : Lc mX9_end 1 := ⟨gw_at 865 (by decide +kernel) rfl, by decide +kernel, by decide +kernel, by decide +kernel⟩
theorem lc_X9_takes : Lc mX9_takes 1 := ⟨gw_at 1148 (by decide +kernel) rfl, by decide +kernel, by decide +kernel, by decide +kernel⟩
theorem lc_X9_isDigit : Lc mX9_isDigit 0 := ⟨gw_at 1160 (by decide +kernel) rfl, by decide +kernel, by decide +kernel, by decide +kernel⟩
theorem lc_X9_number : Lc mX9_number 3 := ⟨gw_at 1156 (by decide +kernel) rfl, by decide +kernel, by decide +kernel, by decide +kernel⟩
theorem lc_X9_of : Lc mX9_of 1 := ⟨gw_at 960 (by decide +kernel) rfl, by decide +kernel, by decide +kernel, by decide +kernel⟩
theorem lc_X9_puts : Lc mX9_puts 2 := ⟨gw_at 878 (by decide +kernel) rfl, by decide +kernel, by decide +kernel, by decide +kernel⟩
theorem lc_X9_more : Lc mX9_more 2 := ⟨gw_at 1011 (by decide +kernel) rfl, by decide +kernel, by decide +kernel, by decide +kernel⟩
theorem lc_X9_tries : Lc mX9_tries 0 := ⟨gw_at 1187 (by decide +kernel) rfl, by decide +kernel, by decide +kernel, by decide +kernel⟩
theorem lc_X9_isBack : Lc mX9_isBack 0 := ⟨gw_at 1191 (by decide +kernel) rfl, by decide +kernel, by decide +kernel, by decide +kernel⟩
theorem lc_X9_isTimer : Lc mX9_isTimer 1 := ⟨gw_at 976 (by decide +kernel) rfl, by decide +kernel, by decide +kernel, by decide +kernel⟩
theorem lc_X9_goes : Lc mX9_goes 1 := ⟨gw_at 972 (by decide +kernel) rfl, by decide +kernel, by decide +kernel, by decide +kernel⟩
theorem lc_X9_span : Lc mX9_span 1 := ⟨gw_at 989 (by decide +kernel) rfl, by decide +kernel, by decide +kernel, by decide +kernel⟩
theorem lc_X9_whole : Lc mX9_whole 0 := ⟨gw_at 1015 (by decide +kernel) rfl, by decide +kernel, by decide +kernel, by decide +kernel⟩
theorem lc_X9_levelFor : Lc mX9_levelFor 1 := ⟨gw_at 985 (by decide +kernel) rfl, by decide +kernel, by decide +kernel, by decide +kernel⟩
theorem lc_X9_lays : Lc mX9_lays 1 := ⟨gw_at 981 (by decide +kernel) rfl, by decide +kernel, by decide +kernel, by decide +kernel⟩
theorem lc_X9_laysAll : Lc mX9_laysAll 0 := ⟨gw_at 968 (by decide +kernel) rfl, by decide +kernel, by decide +kernel, by decide +kernel⟩
theorem lc_X9_moves1 : Lc mX9_moves1 1 := ⟨gw_at 1019 (by decide +kernel) rfl, by decide +kernel, by decide +kernel, by decide +kernel⟩
theorem lc_X9_isAhead : Lc mX9_isAhead 2 := ⟨gw_at 1031 (by decide +kernel) rfl, by decide +kernel, by decide +kernel, by decide +kernel⟩
theorem lc_X9_queues : Lc mX9_queues 2 := ⟨gw_at 1023 (by decide +kernel) rfl, by decide +kernel, by decide +kernel, by decide +kernel⟩
theorem lc_X9_isSooner : Lc mX9_isSooner 3 := ⟨gw_at 1027 (by decide +kernel) rfl, by decide +kernel, by decide +kernel, by decide +kernel⟩
theorem lc_X9_keepsRung : Lc mX9_keepsRung 1 := ⟨gw_at 1039 (by decide +kernel) rfl, by decide +kernel, by decide +kernel, by decide +kernel⟩
theorem lc_X9_comesAgain : Lc mX9_comesAgain 1 := ⟨gw_at 1043 (by decide +kernel) rfl, by decide +kernel, by decide +kernel, by decide +kernel⟩
theorem lc_X9_ringsAll : Lc mX9_ringsAll 1 := ⟨gw_at 1035 (by decide +kernel) rfl, by decide +kernel, by decide +kernel, by decide +kernel⟩
theorem lc_X9_tick : Lc mX9_tick 0 := ⟨gw_at 1007 (by decide +kernel) rfl, by decide +kernel, by decide +kernel, by decide +kernel⟩
theorem lc_X9_tellsLatest : Lc mX9_tellsLatest 0 := ⟨gw_at 1048 (by decide +kernel) rfl, by decide +kernel, by decide +kernel, by decide +kernel⟩
theorem lc_X9_tellsFirst : Lc mX9_tellsFirst 0 := ⟨gw_at 1211 (by decide +kernel) rfl, by decide +kernel, by decide +kernel, by decide +kernel⟩
theorem lc_X9_ticksOf : Lc mX9_ticksOf 1 := ⟨gw_at 1002 (by decide +kernel) rfl, by decide +kernel, by decide +kernel, by decide +kernel⟩
theorem lc_X9_leapsBy : Lc mX9_leapsBy 1 := ⟨gw_at 1066 (by decide +kernel) rfl, by decide +kernel, by decide +kernel, by decide +kernel⟩
theorem lc_X9_wishes : Lc mX9_wishes 4 := ⟨gw_at 950 (by decide +kernel) rfl, by decide +kernel, by decide +kernel, by decide +kernel⟩
theorem lc_X9_isAsWished : Lc mX9_isAsWished 1 := ⟨gw_at 956 (by decide +kernel) rfl, by decide +kernel, by decide +kernel, by decide +kernel⟩
theorem lc_X9_laysWished : Lc mX9_laysWished 1 := ⟨gw_at 964 (by decide +kernel) rfl, by decide +kernel, by decide +kernel, by decide +kernel⟩
theorem lc_X9_wheels : Lc mX9_wheels 4 := ⟨gw_at 946 (by decide +kernel) rfl, by decide +kernel, by decide +kernel, by decide +kernel⟩
theorem lc_X9_order : Lc mX9_order 1 := ⟨gw_at 993 (by decide +kernel) rfl, by decide +kernel, by decide +kernel, by decide +kernel⟩
theorem lc_X9_ticks : Lc mX9_ticks 1 := ⟨gw_at 997 (by decide +kernel) rfl, by decide +kernel, by decide +kernel, by decide +kernel⟩
theorem lc_X9_isLeap : Lc mX9_isLeap 1 := ⟨gw_at 1060 (by decide +kernel) rfl, by decide +kernel, by decide +kernel, by decide +kernel⟩
theorem lc_X9_leaps : Lc mX9_leaps 1 := ⟨gw_at 1057 (by decide +kernel) rfl, by decide +kernel, by decide +kernel, by decide +kernel⟩
theorem lc_X9_many : Lc mX9_many 0 := ⟨gw_at 1094 (by decide +kernel) rfl, by decide +kernel, by decide +kernel, by decide +kernel⟩
theorem lc_X9_setsOne : Lc mX9_setsOne 5 := ⟨gw_at 1082 (by decide +kernel) rfl, by decide +kernel, by decide +kernel, by decide +kernel⟩
theorem lc_X9_sets : Lc mX9_sets 5 := ⟨gw_at 1074 (by decide +kernel) rfl, by decide +kernel, by decide +kernel, by decide +kernel⟩
theorem lc_X9_cancelsOne : Lc mX9_cancelsOne 1 := ⟨gw_at 1090 (by decide +kernel) rfl, by decide +kernel, by decide +kernel, by decide +kernel⟩
theorem lc_X9_cancels : Lc mX9_cancels 1 := ⟨gw_at 1086 (by decide +kernel) rfl, by decide +kernel, by decide +kernel, by decide +kernel⟩
theorem lc_X9_cancelsAll : Lc mX9_cancelsAll 1 := ⟨gw_at 1098 (by decide +kernel) rfl, by decide +kernel, by decide +kernel, by decide +kernel⟩
theorem lc_X9_steady : Lc mX9_steady 2 := ⟨gw_at 1102 (by decide +kernel) rfl, by decide +kernel, by decide +kernel, by decide +kernel⟩
theorem lc_X9_pauses : Lc mX9_pauses 1 := ⟨gw_at 1109 (by decide +kernel) rfl, by decide +kernel, by decide +kernel, by decide +kernel⟩
theorem lc_X9_resumes : Lc mX9_resumes 1 := ⟨gw_at 1117 (by decide +kernel) rfl, by decide +kernel, by decide +kernel, by decide +kernel⟩
theorem lc_X9_delays : Lc mX9_delays 2 := ⟨gw_at 1125 (by decide +kernel) rfl, by decide +kernel, by decide +kernel, by decide +kernel⟩
theorem lc_X9_isGroup : Lc mX9_isGroup 1 := ⟨gw_at 1132 (by decide +kernel) rfl, by decide +kernel, by decide +kernel, by decide +kernel⟩
theorem lc_X9_pausesOne : Lc mX9_pausesOne 1 := ⟨gw_at 1113 (by decide +kernel) rfl, by decide +kernel, by decide +kernel, by decide +kernel⟩
theorem lc_X9_resumesOne : Lc mX9_resumesOne 1 := ⟨gw_at 1121 (by decide +kernel) rfl, by decide +kernel, by decide +kernel, by decide +kernel⟩
theorem lc_X9_holds : Lc mX9_holds 1 := ⟨gw_at 1129 (by decide +kernel) rfl, by decide +kernel, by decide +kernel, by decide +kernel⟩
theorem lc_X9_goesOn : Lc mX9_goesOn 1 := ⟨gw_at 1136 (by decide +kernel) rfl, by decide +kernel, by decide +kernel, by decide +kernel⟩
theorem lc_X9_spreads : Lc mX9_spreads 2 := ⟨gw_at 1140 (by decide +kernel) rfl, by decide +kernel, by decide +kernel, by decide +kernel⟩
theorem lc_X9_readsAct : Lc mX9_readsAct 1 := ⟨gw_at 1152 (by decide +kernel) rfl, by decide +kernel, by decide +kernel, by decide +kernel⟩
theorem lc_X9_doesAct : Lc mX9_doesAct 1 := ⟨gw_at 1166 (by decide +kernel) rfl, by decide +kernel, by decide +kernel, by decide +kernel⟩
theorem lc_X9_run : Lc mX9_run 0 := ⟨gw_at 1144 (by decide +kernel) rfl, by decide +kernel, by decide +kernel, by decide +kernel⟩
theorem lc_X9_timer : Lc mX9_timer 2 := ⟨gw_at 1170 (by decide +kernel) rfl, by decide +kernel, by decide +kernel, by decide +kernel⟩
theorem lc_X9_tellsLine : Lc mX9_tellsLine 0 := ⟨gw_at 1179 (by decide +kernel) rfl, by decide +kernel, by decide +kernel, by decide +kernel⟩
theorem lc_X9_slot : Lc mX9_slot 2 := ⟨gw_at 1175 (by decide +kernel) rfl, by decide +kernel, by decide +kernel, by decide +kernel⟩
theorem lc_X9_far : Lc mX9_far 0 := ⟨gw_at 1183 (by decide +kernel) rfl, by decide +kernel, by decide +kernel, by decide +kernel⟩
theorem lc_X9_group : Lc mX9_group 1 := ⟨gw_at 1195 (by decide +kernel) rfl, by decide +kernel, by decide +kernel, by decide +kernel⟩
theorem lc_X9_full : Lc mX9_full 1 := ⟨gw_at 1199 (by decide +kernel) rfl, by decide +kernel, by decide +kernel, by decide +kernel⟩
theorem lc_X9_next : Lc mX9_next 0 := ⟨gw_at 1203 (by decide +kernel) rfl, by decide +kernel, by decide +kernel, by decide +kernel⟩
theorem lc_X9_rings : Lc mX9_rings 1 := ⟨gw_at 1207 (by decide +kernel) rfl, by decide +kernel, by decide +kernel, by decide +kernel⟩
theorem lc_X9_quiet : Lc mX9_quiet 1 := ⟨gw_at 1215 (by decide +kernel) rfl, by decide +kernel, by decide +kernel, by decide +kernel⟩
theorem lc_X9_ways : Lc mX9_ways 2 := ⟨gw_at 1227 (by decide +kernel) rfl, by decide +kernel, by decide +kernel, by decide +kernel⟩
theorem lc_X9_movesOf : Lc mX9_movesOf 1 := ⟨gw_at 1223 (by decide +kernel) rfl, by decide +kernel, by decide +kernel, by decide +kernel⟩
theorem lc_X9_moves : Lc mX9_moves 1 := ⟨gw_at 1219 (by decide +kernel) rfl, by decide +kernel, by decide +kernel, by decide +kernel⟩
theorem lc_X9_way : Lc mX9_way 1 := ⟨gw_at 1231 (by decide +kernel) rfl, by decide +kernel, by decide +kernel, by decide +kernel⟩
theorem lc_X9_costOf : Lc mX9_costOf 1 := ⟨gw_at 1239 (by decide +kernel) rfl, by decide +kernel, by decide +kernel, by decide +kernel⟩
theorem lc_X9_cost : Lc mX9_cost 4 := ⟨gw_at 1235 (by decide +kernel) rfl, by decide +kernel, by decide +kernel, by decide +kernel⟩
theorem lc_X9_best : Lc mX9_best 1 := ⟨gw_at 1243 (by decide +kernel) rfl, by decide +kernel, by decide +kernel, by decide +kernel⟩
theorem lc_X9_ahead : Lc mX9_ahead 2 := ⟨gw_at 1248 (by decide +kernel) rfl, by decide +kernel, by decide +kernel, by decide +kernel⟩
theorem lc_X9_would : Lc mX9_would 1 := ⟨gw_at 1252 (by decide +kernel) rfl, by decide +kernel, by decide +kernel, by decide +kernel⟩
theorem lc_X9_busiest : Lc mX9_busiest 1 := ⟨gw_at 1257 (by decide +kernel) rfl, by decide +kernel, by decide +kernel, by decide +kernel⟩
theorem lc_X9_loudest : Lc mX9_loudest 1 := ⟨gw_at 1261 (by decide +kernel) rfl, by decide +kernel, by decide +kernel, by decide +kernel⟩
theorem lc_X9_clashes : Lc mX9_clashes 1 := ⟨gw_at 1265 (by decide +kernel) rfl, by decide +kernel, by decide +kernel, by decide +kernel⟩
theorem lc_X9_till : Lc mX9_till 1 := ⟨gw_at 1269 (by decide +kernel) rfl, by decide +kernel, by decide +kernel, by decide +kernel⟩
theorem lc_X9_rung : Lc mX9_rung 1 := ⟨gw_at 1273 (by decide +kernel) rfl, by decide +kernel, by decide +kernel, by decide +kernel⟩
theorem lc_X9_told : Lc mX9_told 1 := ⟨gw_at 1277 (by decide +kernel) rfl, by decide +kernel, by decide +kernel, by decide +kernel⟩
theorem lc_X9_pausedMany : Lc mX9_pausedMany 0 := ⟨gw_at 1287 (by decide +kernel) rfl, by decide +kernel, by decide +kernel, by decide +kernel⟩
theorem lc_X9_farMany : Lc mX9_farMany 0 := ⟨gw_at 1291 (by decide +kernel) rfl, by decide +kernel, by decide +kernel, by decide +kernel⟩
theorem lc_X9_count : Lc mX9_count 1 := ⟨gw_at 1282 (by decide +kernel) rfl, by decide +kernel, by decide +kernel, by decide +kernel⟩
theorem lc_X9_row : Lc mX9_row 1 := ⟨gw_at 1295 (by decide +kernel) rfl, by decide +kernel, by decide +kernel, by decide +kernel⟩
theorem lc_J9_floorMod_7cf53 : Lc mJ9_floorMod_7cf53 2 := ⟨gw_at 470 (by decide +kernel) rfl, by decide +kernel, by decide +kernel, by decide +kernel⟩
theorem lc_J9_abs_0f7a4 : Lc mJ9_abs_0f7a4 1 := ⟨gw_at 1070 (by decide +kernel) rfl, by decide +kernel, by decide +kernel, by decide +kernel⟩
theorem lc_J9_max_7cf53 : Lc mJ9_max_7cf53 2 := ⟨gw_at 716 (by decide +kernel) rfl, by decide +kernel, by decide +kernel, by decide +kernel⟩
theorem lc_J9_min_7cf53 : Lc mJ9_min_7cf53 2 := ⟨gw_at 443 (by decide +kernel) rfl, by decide +kernel, by decide +kernel, by decide +kernel⟩
theorem lc_J7_fill_53178 : Lc mJ7_fill_53178 2 := ⟨gw_at 754 (by decide +kernel) rfl, by decide +kernel, by decide +kernel, by decide +kernel⟩
theorem fl_X0_9 : FL RX0 9 0 0 := ⟨by decide, by decide, gw_at 263 (by decide +kernel) rfl⟩
theorem fl_X0_15 : FL RX0 15 0 1 := ⟨by decide, by decide, gw_at 265 (by decide +kernel) rfl⟩
theorem fl_X0_18 : FL RX0 18 0 2 := ⟨by decide, by decide, gw_at 267 (by decide +kernel) rfl⟩
theorem fl_X0_21 : FL RX0 21 0 3 := ⟨by decide, by decide, gw_at 269 (by decide +kernel) rfl⟩
theorem fl_X0_24 : FL RX0 24 0 4 := ⟨by decide, by decide, gw_at 271 (by decide +kernel) rfl⟩
theorem fl_X0_28 : FL RX0 28 0 6 := ⟨by decide, by decide, gw_at 275 (by decide +kernel) rfl⟩
theorem fl_X0_31 : FL RX0 31 0 5 := ⟨by decide, by decide, gw_at 273 (by decide +kernel) rfl⟩
theorem fl_X0_34 : FL RX0 34 5 1 := ⟨by decide, by decide, gw_at 250 (by decide +kernel) rfl⟩
theorem ml_X0_37 : LV RX0 37 0 mX0_readsAct 1 := ⟨by decide, lc_X0_readsAct, rfl, gw_at 570 (by decide +kernel) rfl, gw_at 572 (by decide +kernel) rfl, gw_pr 10 (by decide +kernel) rfl, gw_at 9 (by decide +kernel) rfl⟩
theorem ml_X0_41 : LV RX0 41 0 mX0_readsSign 2 := ⟨by decide, lc_X0_readsSign, rfl, gw_at 598 (by decide +kernel) rfl, gw_at 600 (by decide +kernel) rfl, gw_pr 15 (by decide +kernel) rfl, gw_at 9 (by decide +kernel) rfl⟩
theorem ml_X0_45 : LV RX0 45 0 mX0_fails 1 := ⟨by decide, lc_X0_fails, rfl, gw_at 578 (by decide +kernel) rfl, gw_at 580 (by decide +kernel) rfl, gw_pr 11 (by decide +kernel) rfl, gw_at 9 (by decide +kernel) rfl⟩
theorem ml_X0_49 : LV RX0 49 5 mX5_at 1 := ⟨by decide, lc_X5_at, rfl, gw_at 574 (by decide +kernel) rfl, gw_at 575 (by decide +kernel) rfl, gw_at 576 (by decide +kernel) rfl, gw_at 8 (by decide +kernel) rfl⟩
theorem ml_X0_53 : LV RX0 53 0 mX0_readsSet 1 := ⟨by decide, lc_X0_readsSet, rfl, gw_at 582 (by decide +kernel) rfl, gw_at 584 (by decide +kernel) rfl, gw_pr 12 (by decide +kernel) rfl, gw_at 9 (by decide +kernel) rfl⟩
theorem ml_X0_56 : LV RX0 56 0 mX0_readsNumber 4 := ⟨by decide, lc_X0_readsNumber, rfl, gw_at 586 (by decide +kernel) rfl, gw_at 588 (by decide +kernel) rfl, gw_pr 13 (by decide +kernel) rfl, gw_at 9 (by decide +kernel) rfl⟩
theorem ml_X0_60 : LV RX0 60 0 mX0_keepsNumber 0 := ⟨by decide, lc_X0_keepsNumber, rfl, gw_at 594 (by decide +kernel) rfl, gw_at 596 (by decide +kernel) rfl, gw_pr 14 (by decide +kernel) rfl, gw_at 9 (by decide +kernel) rfl⟩
theorem ml_X0_64 : LV RX0 64 0 mX0_readsLeap 1 := ⟨by decide, lc_X0_readsLeap, rfl, gw_at 602 (by decide +kernel) rfl, gw_at 604 (by decide +kernel) rfl, gw_pr 16 (by decide +kernel) rfl, gw_at 9 (by decide +kernel) rfl⟩
theorem fl_X0_67 : FL RX0 67 0 7 := ⟨by decide, by decide, gw_at 276 (by decide +kernel) rfl⟩
theorem ms_X0_70 : Lst RX0 70 mX0_isDigit 1 := ⟨lc_X0_isDigit, gw_at 590 (by decide +kernel) rfl, gw_at 591 (by decide +kernel) rfl, gw_at 9 (by decide +kernel) rfl⟩
theorem ms_X0_73 : Lsn RX0 73 mX8_isWithin 3 := ⟨lc_X8_isWithin, ⟨"DueWheels", List.mem_filter.mpr ⟨List.mem_append_right _ (List.mem_of_getElem? (i := 593) (by decide +kernel)), rfl⟩⟩, gw_at 342 (by decide +kernel) rfl, gw_at 1 (by decide +kernel) rfl⟩
theorem fl_X1_11 : FL RX1 11 1 0 := ⟨by decide, by decide, gw_at 64 (by decide +kernel) rfl⟩
theorem fl_X1_17 : FL RX1 17 1 1 := ⟨by decide, by decide, gw_at 65 (by decide +kernel) rfl⟩
theorem ml_X1_21 : LV RX1 21 6 mX6_isAhead 3 := ⟨by decide, lc_X6_isAhead, rfl, gw_at 421 (by decide +kernel) rfl, gw_at 422 (by decide +kernel) rfl, gw_at 423 (by decide +kernel) rfl, gw_at 5 (by decide +kernel) rfl⟩
theorem fl_X2_9 : FL RX2 9 2 0 := ⟨by decide, by decide, gw_at 210 (by decide +kernel) rfl⟩
theorem fl_X2_15 : FL RX2 15 2 1 := ⟨by decide, by decide, gw_at 212 (by decide +kernel) rfl⟩
theorem fl_X2_18 : FL RX2 18 2 2 := ⟨by decide, by decide, gw_at 214 (by decide +kernel) rfl⟩
theorem fl_X2_21 : FL RX2 21 2 3 := ⟨by decide, by decide, gw_at 216 (by decide +kernel) rfl⟩
theorem fl_X2_24 : FL RX2 24 2 4 := ⟨by decide, by decide, gw_at 218 (by decide +kernel) rfl⟩
theorem fl_X2_27 : FL RX2 27 2 7 := ⟨by decide, by decide, gw_at 224 (by decide +kernel) rfl⟩
theorem fl_X2_31 : FL RX2 31 6 0 := ⟨by decide, by decide, gw_at 79 (by decide +kernel) rfl⟩
theorem fl_X2_36 : FL RX2 36 6 3 := ⟨by decide, by decide, gw_at 87 (by decide +kernel) rfl⟩
theorem fl_X2_39 : FL RX2 39 6 5 := ⟨by decide, by decide, gw_at 92 (by decide +kernel) rfl⟩
theorem fl_X2_42 : FL RX2 42 6 9 := ⟨by decide, by decide, gw_at 105 (by decide +kernel) rfl⟩
theorem fl_X2_45 : FL RX2 45 2 5 := ⟨by decide, by decide, gw_at 220 (by decide +kernel) rfl⟩
theorem ms_X2_48 : Lst RX2 48 mJ9_min_7cf53 2 := ⟨lc_J9_min_7cf53, gw_at 453 (by decide +kernel) rfl, gw_at 442 (by decide +kernel) rfl, gw_at 11 (by decide +kernel) rfl⟩
theorem fl_X2_54 : FL RX2 54 2 6 := ⟨by decide, by decide, gw_at 222 (by decide +kernel) rfl⟩
theorem ms_X2_57 : Lsn RX2 57 mX8_isWithin 3 := ⟨lc_X8_isWithin, ⟨"DueWheels", List.mem_filter.mpr ⟨List.mem_append_right _ (List.mem_of_getElem? (i := 467) (by decide +kernel)), rfl⟩⟩, gw_at 342 (by decide +kernel) rfl, gw_at 1 (by decide +kernel) rfl⟩
theorem ms_X2_61 : Lst RX2 61 mJ9_floorMod_7cf53 2 := ⟨lc_J9_floorMod_7cf53, gw_at 468 (by decide +kernel) rfl, gw_at 469 (by decide +kernel) rfl, gw_at 11 (by decide +kernel) rfl⟩
theorem fl_X3_9 : FL RX3 9 3 0 := ⟨by decide, by decide, gw_at 194 (by decide +kernel) rfl⟩
theorem fl_X3_15 : FL RX3 15 3 1 := ⟨by decide, by decide, gw_at 196 (by decide +kernel) rfl⟩
theorem fl_X4_9 : FL RX4 9 4 0 := ⟨by decide, by decide, gw_at 37 (by decide +kernel) rfl⟩
theorem fl_X4_15 : FL RX4 15 4 1 := ⟨by decide, by decide, gw_at 38 (by decide +kernel) rfl⟩
theorem ms_X4_18 : Lst RX4 18 mX4_isSize 1 := ⟨lc_X4_isSize, gw_at 338 (by decide +kernel) rfl, gw_at 339 (by decide +kernel) rfl, gw_at 3 (by decide +kernel) rfl⟩
theorem ms_X4_22 : Lst RX4 22 mX4_isSizeOrNone 1 := ⟨lc_X4_isSizeOrNone, gw_at 344 (by decide +kernel) rfl, gw_at 345 (by decide +kernel) rfl, gw_at 3 (by decide +kernel) rfl⟩
theorem ms_X4_25 : Lsn RX4 25 mX8_isWithin 3 := ⟨lc_X8_isWithin, ⟨"DueWheels", List.mem_filter.mpr ⟨List.mem_append_right _ (List.mem_of_getElem? (i := 341) (by decide +kernel)), rfl⟩⟩, gw_at 342 (by decide +kernel) rfl, gw_at 1 (by decide +kernel) rfl⟩
theorem ml_X4_29 : LV RX4 29 4 mX4_sizeOf 1 := ⟨by decide, lc_X4_sizeOf, rfl, gw_at 351 (by decide +kernel) rfl, gw_at 352 (by decide +kernel) rfl, gw_at 353 (by decide +kernel) rfl, gw_at 3 (by decide +kernel) rfl⟩
theorem fl_X4_33 : FL RX4 33 4 2 := ⟨by decide, by decide, gw_at 40 (by decide +kernel) rfl⟩
theorem fl_X4_37 : FL RX4 37 4 3 := ⟨by decide, by decide, gw_at 42 (by decide +kernel) rfl⟩
theorem ml_X4_40 : LV RX4 40 4 mX4_become 4 := ⟨by decide, lc_X4_become, rfl, gw_at 682 (by decide +kernel) rfl, gw_at 155 (by decide +kernel) rfl, gw_at 156 (by decide +kernel) rfl, gw_at 3 (by decide +kernel) rfl⟩
theorem ml_X4_44 : LV RX4 44 4 mX4_spanOf 1 := ⟨by decide, lc_X4_spanOf, rfl, gw_at 707 (by decide +kernel) rfl, gw_at 406 (by decide +kernel) rfl, gw_at 407 (by decide +kernel) rfl, gw_at 3 (by decide +kernel) rfl⟩
theorem ml_X4_47 : LV RX4 47 4 mX4_turnTime 2 := ⟨by decide, lc_X4_turnTime, rfl, gw_at 703 (by decide +kernel) rfl, gw_at 704 (by decide +kernel) rfl, gw_at 705 (by decide +kernel) rfl, gw_at 3 (by decide +kernel) rfl⟩
theorem ml_X4_51 : LV RX4 51 4 mX4_levelFor 1 := ⟨by decide, lc_X4_levelFor, rfl, gw_at 708 (by decide +kernel) rfl, gw_at 373 (by decide +kernel) rfl, gw_at 374 (by decide +kernel) rfl, gw_at 3 (by decide +kernel) rfl⟩
theorem fl_X5_9 : FL RX5 9 5 0 := ⟨by decide, by decide, gw_at 248 (by decide +kernel) rfl⟩
theorem fl_X5_15 : FL RX5 15 5 1 := ⟨by decide, by decide, gw_at 249 (by decide +kernel) rfl⟩
theorem fl_X6_7 : FL RX6 7 6 0 := ⟨by decide, by decide, gw_at 78 (by decide +kernel) rfl⟩
theorem fl_X6_13 : FL RX6 13 6 1 := ⟨by decide, by decide, gw_at 81 (by decide +kernel) rfl⟩
theorem fl_X6_17 : FL RX6 17 6 2 := ⟨by decide, by decide, gw_at 84 (by decide +kernel) rfl⟩
theorem fl_X6_20 : FL RX6 20 6 4 := ⟨by decide, by decide, gw_at 90 (by decide +kernel) rfl⟩
theorem fl_X6_23 : FL RX6 23 6 9 := ⟨by decide, by decide, gw_at 104 (by decide +kernel) rfl⟩
theorem fl_X6_26 : FL RX6 26 6 10 := ⟨by decide, by decide, gw_at 108 (by decide +kernel) rfl⟩
theorem fl_X6_29 : FL RX6 29 6 11 := ⟨by decide, by decide, gw_at 111 (by decide +kernel) rfl⟩
theorem fl_X6_32 : FL RX6 32 6 12 := ⟨by decide, by decide, gw_at 114 (by decide +kernel) rfl⟩
theorem fl_X6_35 : FL RX6 35 6 3 := ⟨by decide, by decide, gw_at 88 (by decide +kernel) rfl⟩
theorem fl_X6_38 : FL RX6 38 6 5 := ⟨by decide, by decide, gw_at 93 (by decide +kernel) rfl⟩
theorem fl_X6_41 : FL RX6 41 6 6 := ⟨by decide, by decide, gw_at 95 (by decide +kernel) rfl⟩
theorem fl_X6_44 : FL RX6 44 6 7 := ⟨by decide, by decide, gw_at 98 (by decide +kernel) rfl⟩
theorem fl_X6_47 : FL RX6 47 6 8 := ⟨by decide, by decide, gw_at 101 (by decide +kernel) rfl⟩
theorem fl_X6_50 : FL RX6 50 6 13 := ⟨by decide, by decide, gw_at 117 (by decide +kernel) rfl⟩
theorem fl_X6_53 : FL RX6 53 6 14 := ⟨by decide, by decide, gw_at 120 (by decide +kernel) rfl⟩
theorem fl_X7_12 : FL RX7 12 7 0 := ⟨by decide, by decide, gw_at 158 (by decide +kernel) rfl⟩
theorem fl_X7_20 : FL RX7 20 7 1 := ⟨by decide, by decide, gw_at 160 (by decide +kernel) rfl⟩
theorem fl_X7_27 : FL RX7 27 7 2 := ⟨by decide, by decide, gw_at 161 (by decide +kernel) rfl⟩
theorem ml_X7_34 : LV RX7 34 4 mX4_become 4 := ⟨by decide, lc_X4_become, rfl, gw_at 154 (by decide +kernel) rfl, gw_at 155 (by decide +kernel) rfl, gw_at 156 (by decide +kernel) rfl, gw_at 3 (by decide +kernel) rfl⟩
theorem ml_X7_38 : LV RX7 38 4 mX4_copy 1 := ⟨by decide, lc_X4_copy, rfl, gw_at 678 (by decide +kernel) rfl, gw_at 679 (by decide +kernel) rfl, gw_at 680 (by decide +kernel) rfl, gw_at 3 (by decide +kernel) rfl⟩
theorem ml_X7_42 : LV RX7 42 6 mX6_copy 1 := ⟨by decide, lc_X6_copy, rfl, gw_at 683 (by decide +kernel) rfl, gw_at 684 (by decide +kernel) rfl, gw_at 685 (by decide +kernel) rfl, gw_at 5 (by decide +kernel) rfl⟩
theorem fl_X7_45 : FL RX7 45 7 3 := ⟨by decide, by decide, gw_at 163 (by decide +kernel) rfl⟩
theorem fl_X7_49 : FL RX7 49 7 4 := ⟨by decide, by decide, gw_at 165 (by decide +kernel) rfl⟩
theorem fl_X7_52 : FL RX7 52 7 5 := ⟨by decide, by decide, gw_at 167 (by decide +kernel) rfl⟩
theorem fl_X7_55 : FL RX7 55 7 6 := ⟨by decide, by decide, gw_at 169 (by decide +kernel) rfl⟩
theorem fl_X7_58 : FL RX7 58 6 1 := ⟨by decide, by decide, gw_at 82 (by decide +kernel) rfl⟩
theorem ml_X7_62 : LV RX7 62 7 mX7_find 1 := ⟨by decide, lc_X7_find, rfl, gw_at 364 (by decide +kernel) rfl, gw_at 365 (by decide +kernel) rfl, gw_at 366 (by decide +kernel) rfl, gw_at 2 (by decide +kernel) rfl⟩
theorem fl_X7_66 : FL RX7 66 6 11 := ⟨by decide, by decide, gw_at 112 (by decide +kernel) rfl⟩
theorem ml_X7_69 : LV RX7 69 7 mX7_findRunning 1 := ⟨by decide, lc_X7_findRunning, rfl, gw_at 360 (by decide +kernel) rfl, gw_at 361 (by decide +kernel) rfl, gw_at 362 (by decide +kernel) rfl, gw_at 2 (by decide +kernel) rfl⟩
theorem fl_X7_72 : FL RX7 72 6 2 := ⟨by decide, by decide, gw_at 85 (by decide +kernel) rfl⟩
theorem fl_X7_75 : FL RX7 75 6 13 := ⟨by decide, by decide, gw_at 118 (by decide +kernel) rfl⟩
theorem fl_X7_78 : FL RX7 78 6 14 := ⟨by decide, by decide, gw_at 121 (by decide +kernel) rfl⟩
theorem ml_X7_81 : LV RX7 81 4 mX4_levelFor 1 := ⟨by decide, lc_X4_levelFor, rfl, gw_at 372 (by decide +kernel) rfl, gw_at 373 (by decide +kernel) rfl, gw_at 374 (by decide +kernel) rfl, gw_at 3 (by decide +kernel) rfl⟩
theorem ml_X7_85 : LV RX7 85 4 mX4_slotFor 2 := ⟨by decide, lc_X4_slotFor, rfl, gw_at 376 (by decide +kernel) rfl, gw_at 377 (by decide +kernel) rfl, gw_at 378 (by decide +kernel) rfl, gw_at 3 (by decide +kernel) rfl⟩
theorem ml_X7_89 : LV RX7 89 7 mX7_lay 1 := ⟨by decide, lc_X7_lay, rfl, gw_at 368 (by decide +kernel) rfl, gw_at 369 (by decide +kernel) rfl, gw_at 370 (by decide +kernel) rfl, gw_at 2 (by decide +kernel) rfl⟩
theorem fl_X7_92 : FL RX7 92 6 12 := ⟨by decide, by decide, gw_at 116 (by decide +kernel) rfl⟩
theorem fl_X7_95 : FL RX7 95 4 3 := ⟨by decide, by decide, gw_at 43 (by decide +kernel) rfl⟩
theorem ms_X7_98 : Lsn RX7 98 mX8_isMultiple 2 := ⟨lc_X8_isMultiple, ⟨"DueWheels", List.mem_filter.mpr ⟨List.mem_append_right _ (List.mem_of_getElem? (i := 398) (by decide +kernel)), rfl⟩⟩, gw_at 399 (by decide +kernel) rfl, gw_at 1 (by decide +kernel) rfl⟩
theorem ml_X7_102 : LV RX7 102 7 mX7_bringFarOnes 0 := ⟨by decide, lc_X7_bringFarOnes, rfl, gw_at 401 (by decide +kernel) rfl, gw_at 403 (by decide +kernel) rfl, gw_pr 1 (by decide +kernel) rfl, gw_at 2 (by decide +kernel) rfl⟩
theorem fl_X7_105 : FL RX7 105 4 2 := ⟨by decide, by decide, gw_at 41 (by decide +kernel) rfl⟩
theorem ml_X7_108 : LV RX7 108 4 mX4_spanOf 1 := ⟨by decide, lc_X4_spanOf, rfl, gw_at 405 (by decide +kernel) rfl, gw_at 406 (by decide +kernel) rfl, gw_at 407 (by decide +kernel) rfl, gw_at 3 (by decide +kernel) rfl⟩
theorem ml_X7_111 : LV RX7 111 7 mX7_moveFrom 2 := ⟨by decide, lc_X7_moveFrom, rfl, gw_at 409 (by decide +kernel) rfl, gw_at 411 (by decide +kernel) rfl, gw_pr 2 (by decide +kernel) rfl, gw_at 2 (by decide +kernel) rfl⟩
theorem ml_X7_115 : LV RX7 115 1 mX1_empty 0 := ⟨by decide, lc_X1_empty, rfl, gw_at 413 (by decide +kernel) rfl, gw_at 414 (by decide +kernel) rfl, gw_at 415 (by decide +kernel) rfl, gw_at 4 (by decide +kernel) rfl⟩
theorem ml_X7_118 : LV RX7 118 1 mX1_join 3 := ⟨by decide, lc_X1_join, rfl, gw_at 417 (by decide +kernel) rfl, gw_at 418 (by decide +kernel) rfl, gw_at 419 (by decide +kernel) rfl, gw_at 4 (by decide +kernel) rfl⟩
theorem ml_X7_122 : LV RX7 122 7 mX7_ringLine 0 := ⟨by decide, lc_X7_ringLine, rfl, gw_at 425 (by decide +kernel) rfl, gw_at 427 (by decide +kernel) rfl, gw_pr 3 (by decide +kernel) rfl, gw_at 2 (by decide +kernel) rfl⟩
theorem fl_X7_125 : FL RX7 125 6 10 := ⟨by decide, by decide, gw_at 110 (by decide +kernel) rfl⟩
theorem ml_X7_128 : LV RX7 128 7 mX7_layAll 0 := ⟨by decide, lc_X7_layAll, rfl, gw_at 489 (by decide +kernel) rfl, gw_at 357 (by decide +kernel) rfl, gw_at 358 (by decide +kernel) rfl, gw_at 2 (by decide +kernel) rfl⟩
theorem fl_X7_131 : FL RX7 131 1 1 := ⟨by decide, by decide, gw_at 67 (by decide +kernel) rfl⟩
theorem ml_X7_134 : LV RX7 134 1 mX1_at 1 := ⟨by decide, lc_X1_at, rfl, gw_at 429 (by decide +kernel) rfl, gw_at 430 (by decide +kernel) rfl, gw_at 431 (by decide +kernel) rfl, gw_at 4 (by decide +kernel) rfl⟩
theorem ml_X7_137 : LV RX7 137 7 mX7_ring 1 := ⟨by decide, lc_X7_ring, rfl, gw_at 433 (by decide +kernel) rfl, gw_at 435 (by decide +kernel) rfl, gw_pr 4 (by decide +kernel) rfl, gw_at 2 (by decide +kernel) rfl⟩
theorem fl_X7_140 : FL RX7 140 6 9 := ⟨by decide, by decide, gw_at 106 (by decide +kernel) rfl⟩
theorem fl_X7_143 : FL RX7 143 6 3 := ⟨by decide, by decide, gw_at 89 (by decide +kernel) rfl⟩
theorem fl_X7_146 : FL RX7 146 6 8 := ⟨by decide, by decide, gw_at 103 (by decide +kernel) rfl⟩
theorem fl_X7_149 : FL RX7 149 6 6 := ⟨by decide, by decide, gw_at 97 (by decide +kernel) rfl⟩
theorem ml_X7_152 : LV RX7 152 7 mX7_catchUp 1 := ⟨by decide, lc_X7_catchUp, rfl, gw_at 437 (by decide +kernel) rfl, gw_at 439 (by decide +kernel) rfl, gw_pr 5 (by decide +kernel) rfl, gw_at 2 (by decide +kernel) rfl⟩
theorem fl_X7_155 : FL RX7 155 6 7 := ⟨by decide, by decide, gw_at 100 (by decide +kernel) rfl⟩
theorem ms_X7_158 : Lst RX7 158 mJ9_min_7cf53 2 := ⟨lc_J9_min_7cf53, gw_at 441 (by decide +kernel) rfl, gw_at 442 (by decide +kernel) rfl, gw_at 11 (by decide +kernel) rfl⟩
theorem fl_X8_10 : FL RX8 10 8 0 := ⟨by decide, by decide, gw_at 294 (by decide +kernel) rfl⟩
theorem fl_X8_16 : FL RX8 16 8 1 := ⟨by decide, by decide, gw_at 295 (by decide +kernel) rfl⟩
theorem fl_X8_22 : FL RX8 22 8 2 := ⟨by decide, by decide, gw_at 296 (by decide +kernel) rfl⟩
theorem fl_X8_26 : FL RX8 26 8 3 := ⟨by decide, by decide, gw_at 297 (by decide +kernel) rfl⟩
theorem fl_X8_33 : FL RX8 33 8 4 := ⟨by decide, by decide, gw_at 298 (by decide +kernel) rfl⟩
theorem fl_X8_40 : FL RX8 40 8 5 := ⟨by decide, by decide, gw_at 299 (by decide +kernel) rfl⟩
theorem fl_X8_47 : FL RX8 47 8 6 := ⟨by decide, by decide, gw_at 300 (by decide +kernel) rfl⟩
theorem fl_X8_54 : FL RX8 54 8 7 := ⟨by decide, by decide, gw_at 301 (by decide +kernel) rfl⟩
theorem ms_X8_58 : Lst RX8 58 mX4_isPossible 4 := ⟨lc_X4_isPossible, gw_at 335 (by decide +kernel) rfl, gw_at 336 (by decide +kernel) rfl, gw_at 3 (by decide +kernel) rfl⟩
theorem fl_X8_62 : FL RX8 62 7 0 := ⟨by decide, by decide, gw_at 159 (by decide +kernel) rfl⟩
theorem ml_X8_65 : LV RX8 65 4 mX4_isOf 4 := ⟨by decide, lc_X4_isOf, rfl, gw_at 347 (by decide +kernel) rfl, gw_at 348 (by decide +kernel) rfl, gw_at 349 (by decide +kernel) rfl, gw_at 3 (by decide +kernel) rfl⟩
theorem ml_X8_68 : LV RX8 68 4 mX4_become 4 := ⟨by decide, lc_X4_become, rfl, gw_at 355 (by decide +kernel) rfl, gw_at 155 (by decide +kernel) rfl, gw_at 156 (by decide +kernel) rfl, gw_at 3 (by decide +kernel) rfl⟩
theorem ml_X8_72 : LV RX8 72 7 mX7_layAll 0 := ⟨by decide, lc_X7_layAll, rfl, gw_at 356 (by decide +kernel) rfl, gw_at 357 (by decide +kernel) rfl, gw_at 358 (by decide +kernel) rfl, gw_at 2 (by decide +kernel) rfl⟩
theorem fl_X8_75 : FL RX8 75 4 2 := ⟨by decide, by decide, gw_at 39 (by decide +kernel) rfl⟩
theorem ms_X8_79 : Lst RX8 79 mX8_isWithin 3 := ⟨lc_X8_isWithin, gw_at 384 (by decide +kernel) rfl, gw_at 342 (by decide +kernel) rfl, gw_at 1 (by decide +kernel) rfl⟩
theorem fl_X8_83 : FL RX8 83 7 4 := ⟨by decide, by decide, gw_at 166 (by decide +kernel) rfl⟩
theorem ml_X8_86 : LV RX8 86 8 mX8_refusalOfTicks 1 := ⟨by decide, lc_X8_refusalOfTicks, rfl, gw_at 389 (by decide +kernel) rfl, gw_at 391 (by decide +kernel) rfl, gw_pr 0 (by decide +kernel) rfl, gw_at 1 (by decide +kernel) rfl⟩
theorem ml_X8_90 : LV RX8 90 7 mX7_tick 0 := ⟨by decide, lc_X7_tick, rfl, gw_at 394 (by decide +kernel) rfl, gw_at 395 (by decide +kernel) rfl, gw_at 396 (by decide +kernel) rfl, gw_at 2 (by decide +kernel) rfl⟩
theorem ml_X8_93 : LV RX8 93 8 mX8_keepWhatRang 0 := ⟨by decide, lc_X8_keepWhatRang, rfl, gw_at 444 (by decide +kernel) rfl, gw_at 446 (by decide +kernel) rfl, gw_pr 6 (by decide +kernel) rfl, gw_at 1 (by decide +kernel) rfl⟩
theorem ml_X8_97 : LV RX8 97 8 mX8_tellLatest 2 := ⟨by decide, lc_X8_tellLatest, rfl, gw_at 454 (by decide +kernel) rfl, gw_at 456 (by decide +kernel) rfl, gw_pr 7 (by decide +kernel) rfl, gw_at 1 (by decide +kernel) rfl⟩
theorem ml_X8_101 : LV RX8 101 8 mX8_refusalOfLeap 1 := ⟨by decide, lc_X8_refusalOfLeap, rfl, gw_at 479 (by decide +kernel) rfl, gw_at 481 (by decide +kernel) rfl, gw_pr 8 (by decide +kernel) rfl, gw_at 1 (by decide +kernel) rfl⟩
theorem ml_X8_104 : LV RX8 104 7 mX7_leap 1 := ⟨by decide, lc_X7_leap, rfl, gw_at 485 (by decide +kernel) rfl, gw_at 486 (by decide +kernel) rfl, gw_at 487 (by decide +kernel) rfl, gw_at 2 (by decide +kernel) rfl⟩
theorem fl_X8_108 : FL RX8 108 8 10 := ⟨by decide, by decide, gw_at 304 (by decide +kernel) rfl⟩
theorem fl_X8_111 : FL RX8 111 8 11 := ⟨by decide, by decide, gw_at 305 (by decide +kernel) rfl⟩
theorem kc_X8_114 : Cond.constant RX8 114 (1000000) ∈ gw := gw_at 484 (by decide +kernel) rfl
theorem ms_X8_115 : Lst RX8 115 mX8_isGroup 1 := ⟨lc_X8_isGroup, gw_at 494 (by decide +kernel) rfl, gw_at 495 (by decide +kernel) rfl, gw_at 1 (by decide +kernel) rfl⟩
theorem ml_X8_119 : LV RX8 119 7 mX7_leastFree 0 := ⟨by decide, lc_X7_leastFree, rfl, gw_at 497 (by decide +kernel) rfl, gw_at 498 (by decide +kernel) rfl, gw_at 499 (by decide +kernel) rfl, gw_at 2 (by decide +kernel) rfl⟩
theorem fl_X8_123 : FL RX8 123 7 3 := ⟨by decide, by decide, gw_at 164 (by decide +kernel) rfl⟩
theorem fl_X8_126 : FL RX8 126 8 8 := ⟨by decide, by decide, gw_at 302 (by decide +kernel) rfl⟩
theorem ml_X8_129 : LV RX8 129 6 mX6_start 2 := ⟨by decide, lc_X6_start, rfl, gw_at 501 (by decide +kernel) rfl, gw_at 502 (by decide +kernel) rfl, gw_at 503 (by decide +kernel) rfl, gw_at 5 (by decide +kernel) rfl⟩
theorem fl_X8_135 : FL RX8 135 6 5 := ⟨by decide, by decide, gw_at 94 (by decide +kernel) rfl⟩
theorem fl_X8_138 : FL RX8 138 6 6 := ⟨by decide, by decide, gw_at 96 (by decide +kernel) rfl⟩
theorem fl_X8_141 : FL RX8 141 6 7 := ⟨by decide, by decide, gw_at 99 (by decide +kernel) rfl⟩
theorem fl_X8_144 : FL RX8 144 6 8 := ⟨by decide, by decide, gw_at 102 (by decide +kernel) rfl⟩
theorem ml_X8_147 : LV RX8 147 7 mX7_lay 1 := ⟨by decide, lc_X7_lay, rfl, gw_at 505 (by decide +kernel) rfl, gw_at 369 (by decide +kernel) rfl, gw_at 370 (by decide +kernel) rfl, gw_at 2 (by decide +kernel) rfl⟩
theorem fl_X8_151 : FL RX8 151 6 0 := ⟨by decide, by decide, gw_at 80 (by decide +kernel) rfl⟩
theorem ml_X8_154 : LV RX8 154 7 mX7_find 1 := ⟨by decide, lc_X7_find, rfl, gw_at 510 (by decide +kernel) rfl, gw_at 365 (by decide +kernel) rfl, gw_at 366 (by decide +kernel) rfl, gw_at 2 (by decide +kernel) rfl⟩
theorem fl_X8_158 : FL RX8 158 6 1 := ⟨by decide, by decide, gw_at 83 (by decide +kernel) rfl⟩
theorem fl_X8_162 : FL RX8 162 8 9 := ⟨by decide, by decide, gw_at 303 (by decide +kernel) rfl⟩
theorem ml_X8_165 : LV RX8 165 7 mX7_countSet 0 := ⟨by decide, lc_X7_countSet, rfl, gw_at 511 (by decide +kernel) rfl, gw_at 512 (by decide +kernel) rfl, gw_at 513 (by decide +kernel) rfl, gw_at 2 (by decide +kernel) rfl⟩
theorem fl_X8_168 : FL RX8 168 6 10 := ⟨by decide, by decide, gw_at 109 (by decide +kernel) rfl⟩
theorem fl_X8_171 : FL RX8 171 6 11 := ⟨by decide, by decide, gw_at 113 (by decide +kernel) rfl⟩
theorem ml_X8_174 : LV RX8 174 7 mX7_pause 1 := ⟨by decide, lc_X7_pause, rfl, gw_at 527 (by decide +kernel) rfl, gw_at 528 (by decide +kernel) rfl, gw_at 529 (by decide +kernel) rfl, gw_at 2 (by decide +kernel) rfl⟩
theorem fl_X8_177 : FL RX8 177 6 12 := ⟨by decide, by decide, gw_at 115 (by decide +kernel) rfl⟩
theorem ml_X8_180 : LV RX8 180 7 mX7_resume 1 := ⟨by decide, lc_X7_resume, rfl, gw_at 535 (by decide +kernel) rfl, gw_at 536 (by decide +kernel) rfl, gw_at 537 (by decide +kernel) rfl, gw_at 2 (by decide +kernel) rfl⟩
theorem fl_X8_183 : FL RX8 183 6 2 := ⟨by decide, by decide, gw_at 86 (by decide +kernel) rfl⟩
theorem ml_X8_186 : LV RX8 186 7 mX7_findRunning 1 := ⟨by decide, lc_X7_findRunning, rfl, gw_at 543 (by decide +kernel) rfl, gw_at 361 (by decide +kernel) rfl, gw_at 362 (by decide +kernel) rfl, gw_at 2 (by decide +kernel) rfl⟩
theorem fl_X8_189 : FL RX8 189 7 2 := ⟨by decide, by decide, gw_at 162 (by decide +kernel) rfl⟩
theorem ml_X8_193 : LV RX8 193 1 mX1_empty 0 := ⟨by decide, lc_X1_empty, rfl, gw_at 552 (by decide +kernel) rfl, gw_at 414 (by decide +kernel) rfl, gw_at 415 (by decide +kernel) rfl, gw_at 4 (by decide +kernel) rfl⟩
theorem ml_X8_198 : LV RX8 198 1 mX1_join 3 := ⟨by decide, lc_X1_join, rfl, gw_at 553 (by decide +kernel) rfl, gw_at 418 (by decide +kernel) rfl, gw_at 419 (by decide +kernel) rfl, gw_at 4 (by decide +kernel) rfl⟩
theorem fl_X8_202 : FL RX8 202 1 1 := ⟨by decide, by decide, gw_at 66 (by decide +kernel) rfl⟩
theorem ml_X8_205 : LV RX8 205 8 mX8_putApart 2 := ⟨by decide, lc_X8_putApart, rfl, gw_at 554 (by decide +kernel) rfl, gw_at 556 (by decide +kernel) rfl, gw_pr 9 (by decide +kernel) rfl, gw_at 1 (by decide +kernel) rfl⟩
theorem ml_X8_209 : LV RX8 209 3 mX3_empty 0 := ⟨by decide, lc_X3_empty, rfl, gw_at 458 (by decide +kernel) rfl, gw_at 459 (by decide +kernel) rfl, gw_at 460 (by decide +kernel) rfl, gw_at 6 (by decide +kernel) rfl⟩
theorem ml_X8_210 : LV RX8 210 3 mX3_put 1 := ⟨by decide, lc_X3_put, rfl, gw_at 471 (by decide +kernel) rfl, gw_at 472 (by decide +kernel) rfl, gw_at 473 (by decide +kernel) rfl, gw_at 6 (by decide +kernel) rfl⟩
theorem ml_X8_214 : LV RX8 214 0 mX0_readsAll 1 := ⟨by decide, lc_X0_readsAll, rfl, gw_at 566 (by decide +kernel) rfl, gw_at 567 (by decide +kernel) rfl, gw_at 568 (by decide +kernel) rfl, gw_at 9 (by decide +kernel) rfl⟩
theorem ml_X8_218 : LV RX8 218 5 mX5_shorten 1 := ⟨by decide, lc_X5_shorten, rfl, gw_at 606 (by decide +kernel) rfl, gw_at 607 (by decide +kernel) rfl, gw_at 608 (by decide +kernel) rfl, gw_at 8 (by decide +kernel) rfl⟩
theorem fl_X8_221 : FL RX8 221 0 5 := ⟨by decide, by decide, gw_at 274 (by decide +kernel) rfl⟩
theorem fl_X8_224 : FL RX8 224 2 6 := ⟨by decide, by decide, gw_at 223 (by decide +kernel) rfl⟩
theorem fl_X8_227 : FL RX8 227 0 4 := ⟨by decide, by decide, gw_at 272 (by decide +kernel) rfl⟩
theorem ml_X8_228 : LV RX8 228 8 mX8_does 1 := ⟨by decide, lc_X8_does, rfl, gw_at 610 (by decide +kernel) rfl, gw_at 612 (by decide +kernel) rfl, gw_pr 17 (by decide +kernel) rfl, gw_at 1 (by decide +kernel) rfl⟩
theorem ml_X8_231 : LV RX8 231 5 mX5_append 1 := ⟨by decide, lc_X5_append, rfl, gw_at 622 (by decide +kernel) rfl, gw_at 623 (by decide +kernel) rfl, gw_at 624 (by decide +kernel) rfl, gw_at 8 (by decide +kernel) rfl⟩
theorem fl_X8_234 : FL RX8 234 5 1 := ⟨by decide, by decide, gw_at 251 (by decide +kernel) rfl⟩
theorem fl_X8_238 : FL RX8 238 6 13 := ⟨by decide, by decide, gw_at 119 (by decide +kernel) rfl⟩
theorem fl_X8_241 : FL RX8 241 6 14 := ⟨by decide, by decide, gw_at 122 (by decide +kernel) rfl⟩
theorem fl_X8_244 : FL RX8 244 6 4 := ⟨by decide, by decide, gw_at 91 (by decide +kernel) rfl⟩
theorem fl_X8_247 : FL RX8 247 6 9 := ⟨by decide, by decide, gw_at 107 (by decide +kernel) rfl⟩
theorem ml_X8_250 : LV RX8 250 4 mX4_hasLevel 1 := ⟨by decide, lc_X4_hasLevel, rfl, gw_at 634 (by decide +kernel) rfl, gw_at 635 (by decide +kernel) rfl, gw_at 636 (by decide +kernel) rfl, gw_at 3 (by decide +kernel) rfl⟩
theorem ml_X8_253 : LV RX8 253 4 mX4_sizeOf 1 := ⟨by decide, lc_X4_sizeOf, rfl, gw_at 638 (by decide +kernel) rfl, gw_at 352 (by decide +kernel) rfl, gw_at 353 (by decide +kernel) rfl, gw_at 3 (by decide +kernel) rfl⟩
theorem ml_X8_256 : LV RX8 256 8 mX8_tellLine 1 := ⟨by decide, lc_X8_tellLine, rfl, gw_at 639 (by decide +kernel) rfl, gw_at 641 (by decide +kernel) rfl, gw_pr 18 (by decide +kernel) rfl, gw_at 1 (by decide +kernel) rfl⟩
theorem fl_X8_260 : FL RX8 260 3 1 := ⟨by decide, by decide, gw_at 197 (by decide +kernel) rfl⟩
theorem ml_X8_261 : LV RX8 261 7 mX7_countIn 2 := ⟨by decide, lc_X7_countIn, rfl, gw_at 658 (by decide +kernel) rfl, gw_at 659 (by decide +kernel) rfl, gw_at 660 (by decide +kernel) rfl, gw_at 2 (by decide +kernel) rfl⟩
theorem ml_X8_265 : LV RX8 265 7 mX7_firstDue 0 := ⟨by decide, lc_X7_firstDue, rfl, gw_at 666 (by decide +kernel) rfl, gw_at 667 (by decide +kernel) rfl, gw_at 668 (by decide +kernel) rfl, gw_at 2 (by decide +kernel) rfl⟩
theorem ml_X8_268 : LV RX8 268 7 mX7_copy 1 := ⟨by decide, lc_X7_copy, rfl, gw_at 674 (by decide +kernel) rfl, gw_at 675 (by decide +kernel) rfl, gw_at 676 (by decide +kernel) rfl, gw_at 2 (by decide +kernel) rfl⟩
theorem ml_X8_272 : LV RX8 272 8 mX8_tellWhatRings 1 := ⟨by decide, lc_X8_tellWhatRings, rfl, gw_at 687 (by decide +kernel) rfl, gw_at 689 (by decide +kernel) rfl, gw_pr 19 (by decide +kernel) rfl, gw_at 1 (by decide +kernel) rfl⟩
theorem ml_X8_275 : LV RX8 275 4 mX4_movesFrom 2 := ⟨by decide, lc_X4_movesFrom, rfl, gw_at 699 (by decide +kernel) rfl, gw_at 700 (by decide +kernel) rfl, gw_at 701 (by decide +kernel) rfl, gw_at 3 (by decide +kernel) rfl⟩
theorem ml_X8_278 : LV RX8 278 4 mX4_levelFor 1 := ⟨by decide, lc_X4_levelFor, rfl, gw_at 713 (by decide +kernel) rfl, gw_at 373 (by decide +kernel) rfl, gw_at 374 (by decide +kernel) rfl, gw_at 3 (by decide +kernel) rfl⟩
theorem ms_X8_281 : Lst RX8 281 mJ9_max_7cf53 2 := ⟨lc_J9_max_7cf53, gw_at 714 (by decide +kernel) rfl, gw_at 715 (by decide +kernel) rfl, gw_at 11 (by decide +kernel) rfl⟩
theorem ml_X8_286 : LV RX8 286 8 mX8_movesBy 1 := ⟨by decide, lc_X8_movesBy, rfl, gw_at 717 (by decide +kernel) rfl, gw_at 719 (by decide +kernel) rfl, gw_pr 20 (by decide +kernel) rfl, gw_at 1 (by decide +kernel) rfl⟩
theorem ml_X8_290 : LV RX8 290 6 mX6_isAhead 3 := ⟨by decide, lc_X6_isAhead, rfl, gw_at 729 (by decide +kernel) rfl, gw_at 422 (by decide +kernel) rfl, gw_at 423 (by decide +kernel) rfl, gw_at 5 (by decide +kernel) rfl⟩
theorem ml_X8_294 : LV RX8 294 4 mX4_turnTime 2 := ⟨by decide, lc_X4_turnTime, rfl, gw_at 734 (by decide +kernel) rfl, gw_at 704 (by decide +kernel) rfl, gw_at 705 (by decide +kernel) rfl, gw_at 3 (by decide +kernel) rfl⟩
theorem ml_X8_297 : LV RX8 297 1 mX1_at 1 := ⟨by decide, lc_X1_at, rfl, gw_at 448 (by decide +kernel) rfl, gw_at 430 (by decide +kernel) rfl, gw_at 431 (by decide +kernel) rfl, gw_at 4 (by decide +kernel) rfl⟩
theorem kc_X8_300 : Cond.constantLong RX8 300 (-1) ∈ gw := gw_at 739 (by decide +kernel) rfl
theorem fl_X8_302 : FL RX8 302 7 5 := ⟨by decide, by decide, gw_at 168 (by decide +kernel) rfl⟩
theorem ms_X8_305 : Lst RX8 305 mJ7_fill_53178 2 := ⟨lc_J7_fill_53178, gw_at 752 (by decide +kernel) rfl, gw_at 753 (by decide +kernel) rfl, gw_at 16 (by decide +kernel) rfl⟩
theorem ms_X8_311 : Lst RX8 311 mX8_countGroups 2 := ⟨lc_X8_countGroups, gw_at 755 (by decide +kernel) rfl, gw_at 756 (by decide +kernel) rfl, gw_at 1 (by decide +kernel) rfl⟩
theorem ms_X8_315 : Lst RX8 315 mX8_numberOf 1 := ⟨lc_X8_numberOf, gw_at 643 (by decide +kernel) rfl, gw_at 644 (by decide +kernel) rfl, gw_at 1 (by decide +kernel) rfl⟩
theorem ml_X8_319 : LV RX8 319 2 mX2_placeOf 1 := ⟨by decide, lc_X2_placeOf, rfl, gw_at 463 (by decide +kernel) rfl, gw_at 464 (by decide +kernel) rfl, gw_at 465 (by decide +kernel) rfl, gw_at 7 (by decide +kernel) rfl⟩
theorem fl_X8_322 : FL RX8 322 2 1 := ⟨by decide, by decide, gw_at 213 (by decide +kernel) rfl⟩
theorem fl_X8_325 : FL RX8 325 2 2 := ⟨by decide, by decide, gw_at 215 (by decide +kernel) rfl⟩
theorem fl_X8_328 : FL RX8 328 2 3 := ⟨by decide, by decide, gw_at 217 (by decide +kernel) rfl⟩
theorem fl_X8_331 : FL RX8 331 2 4 := ⟨by decide, by decide, gw_at 219 (by decide +kernel) rfl⟩
theorem fl_X8_334 : FL RX8 334 2 0 := ⟨by decide, by decide, gw_at 211 (by decide +kernel) rfl⟩
theorem fl_X8_337 : FL RX8 337 7 6 := ⟨by decide, by decide, gw_at 170 (by decide +kernel) rfl⟩
theorem fl_X8_340 : FL RX8 340 4 3 := ⟨by decide, by decide, gw_at 44 (by decide +kernel) rfl⟩
theorem ml_X8_343 : LV RX8 343 7 mX7_countOn 1 := ⟨by decide, lc_X7_countOn, rfl, gw_at 774 (by decide +kernel) rfl, gw_at 775 (by decide +kernel) rfl, gw_at 776 (by decide +kernel) rfl, gw_at 2 (by decide +kernel) rfl⟩
theorem fl_X8_346 : FL RX8 346 2 5 := ⟨by decide, by decide, gw_at 221 (by decide +kernel) rfl⟩
theorem fl_X8_349 : FL RX8 349 3 0 := ⟨by decide, by decide, gw_at 195 (by decide +kernel) rfl⟩
theorem kc_X8_353 : Cond.constant RX8 353 (1000000000) ∈ gw := gw_at 393 (by decide +kernel) rfl
theorem kc_X8_354 : Cond.constant RX8 354 (-1000000) ∈ gw := gw_at 483 (by decide +kernel) rfl
theorem ml_X8_355 : LV RX8 355 2 mX2_keep 2 := ⟨by decide, lc_X2_keep, rfl, gw_at 449 (by decide +kernel) rfl, gw_at 450 (by decide +kernel) rfl, gw_at 451 (by decide +kernel) rfl, gw_at 7 (by decide +kernel) rfl⟩
theorem ms_X8_359 : Lst RX8 359 mJ9_min_7cf53 2 := ⟨lc_J9_min_7cf53, gw_at 462 (by decide +kernel) rfl, gw_at 442 (by decide +kernel) rfl, gw_at 11 (by decide +kernel) rfl⟩
theorem fl_X8_362 : FL RX8 362 0 1 := ⟨by decide, by decide, gw_at 266 (by decide +kernel) rfl⟩
theorem fl_X8_364 : FL RX8 364 0 0 := ⟨by decide, by decide, gw_at 264 (by decide +kernel) rfl⟩
theorem fl_X8_367 : FL RX8 367 0 2 := ⟨by decide, by decide, gw_at 268 (by decide +kernel) rfl⟩
theorem fl_X8_370 : FL RX8 370 0 3 := ⟨by decide, by decide, gw_at 270 (by decide +kernel) rfl⟩
theorem ml_X8_373 : LV RX8 373 8 mX8_sets 5 := ⟨by decide, lc_X8_sets, rfl, gw_at 614 (by decide +kernel) rfl, gw_at 491 (by decide +kernel) rfl, gw_at 492 (by decide +kernel) rfl, gw_at 1 (by decide +kernel) rfl⟩
theorem ml_X8_377 : LV RX8 377 8 mX8_ticks 1 := ⟨by decide, lc_X8_ticks, rfl, gw_at 615 (by decide +kernel) rfl, gw_at 386 (by decide +kernel) rfl, gw_at 387 (by decide +kernel) rfl, gw_at 1 (by decide +kernel) rfl⟩
theorem ml_X8_380 : LV RX8 380 8 mX8_leaps 1 := ⟨by decide, lc_X8_leaps, rfl, gw_at 616 (by decide +kernel) rfl, gw_at 476 (by decide +kernel) rfl, gw_at 477 (by decide +kernel) rfl, gw_at 1 (by decide +kernel) rfl⟩
theorem ml_X8_383 : LV RX8 383 8 mX8_cancels 1 := ⟨by decide, lc_X8_cancels, rfl, gw_at 617 (by decide +kernel) rfl, gw_at 507 (by decide +kernel) rfl, gw_at 508 (by decide +kernel) rfl, gw_at 1 (by decide +kernel) rfl⟩
theorem fl_X9_1 : FL RX9 1 9 0 := ⟨by decide, by decide, gw_at 879 (by decide +kernel) rfl⟩
theorem fl_X9_7 : FL RX9 7 9 2 := ⟨by decide, by decide, gw_at 881 (by decide +kernel) rfl⟩
theorem fl_X9_11 : FL RX9 11 9 1 := ⟨by decide, by decide, gw_at 880 (by decide +kernel) rfl⟩
theorem fl_X9_14 : FL RX9 14 9 4 := ⟨by decide, by decide, gw_at 883 (by decide +kernel) rfl⟩
theorem fl_X9_17 : FL RX9 17 9 3 := ⟨by decide, by decide, gw_at 882 (by decide +kernel) rfl⟩
theorem ms_X9_21 : Lst RX9 21 mX9_in 3 := ⟨lc_X9_in, gw_at 866 (by decide +kernel) rfl, gw_at 867 (by decide +kernel) rfl, gw_at 10 (by decide +kernel) rfl⟩
theorem fl_X9_25 : FL RX9 25 9 5 := ⟨by decide, by decide, gw_at 884 (by decide +kernel) rfl⟩
theorem fl_X9_28 : FL RX9 28 9 6 := ⟨by decide, by decide, gw_at 885 (by decide +kernel) rfl⟩
theorem ms_X9_31 : Lst RX9 31 mX9_flag 1 := ⟨lc_X9_flag, gw_at 1103 (by decide +kernel) rfl, gw_at 1104 (by decide +kernel) rfl, gw_at 10 (by decide +kernel) rfl⟩
theorem kc_X9_35 : Cond.constantLong RX9 35 (48) ∈ gw := gw_at 1161 (by decide +kernel) rfl
theorem kc_X9_37 : Cond.constantLong RX9 37 (57) ∈ gw := gw_at 1162 (by decide +kernel) rfl
theorem ml_X9_39 : LV RX9 39 9 mX9_isDigit 0 := ⟨by decide, lc_X9_isDigit, rfl, gw_at 1157 (by decide +kernel) rfl, gw_at 1159 (by decide +kernel) rfl, gw_pr 55 (by decide +kernel) rfl, gw_at 10 (by decide +kernel) rfl⟩
theorem fl_X9_49 : FL RX9 49 9 7 := ⟨by decide, by decide, gw_at 886 (by decide +kernel) rfl⟩
theorem fl_X9_52 : FL RX9 52 9 9 := ⟨by decide, by decide, gw_at 888 (by decide +kernel) rfl⟩
theorem fl_X9_55 : FL RX9 55 9 11 := ⟨by decide, by decide, gw_at 890 (by decide +kernel) rfl⟩
theorem fl_X9_58 : FL RX9 58 9 12 := ⟨by decide, by decide, gw_at 891 (by decide +kernel) rfl⟩
theorem fl_X9_61 : FL RX9 61 9 14 := ⟨by decide, by decide, gw_at 893 (by decide +kernel) rfl⟩
theorem fl_X9_64 : FL RX9 64 9 15 := ⟨by decide, by decide, gw_at 894 (by decide +kernel) rfl⟩
theorem fl_X9_67 : FL RX9 67 9 16 := ⟨by decide, by decide, gw_at 895 (by decide +kernel) rfl⟩
theorem fl_X9_70 : FL RX9 70 9 17 := ⟨by decide, by decide, gw_at 896 (by decide +kernel) rfl⟩
theorem fl_X9_73 : FL RX9 73 9 20 := ⟨by decide, by decide, gw_at 899 (by decide +kernel) rfl⟩
theorem ml_X9_76 : LV RX9 76 9 mX9_puts 2 := ⟨by decide, lc_X9_puts, rfl, gw_at 875 (by decide +kernel) rfl, gw_at 877 (by decide +kernel) rfl, gw_pr 22 (by decide +kernel) rfl, gw_at 10 (by decide +kernel) rfl⟩
theorem fl_X9_80 : FL RX9 80 9 8 := ⟨by decide, by decide, gw_at 887 (by decide +kernel) rfl⟩
theorem kc_X9_83 : Cond.constantLong RX9 83 (15) ∈ gw := gw_at 977 (by decide +kernel) rfl
theorem ml_X9_85 : LV RX9 85 9 mX9_of 1 := ⟨by decide, lc_X9_of, rfl, gw_at 957 (by decide +kernel) rfl, gw_at 959 (by decide +kernel) rfl, gw_pr 25 (by decide +kernel) rfl, gw_at 10 (by decide +kernel) rfl⟩
theorem ml_X9_89 : LV RX9 89 9 mX9_isTimer 1 := ⟨by decide, lc_X9_isTimer, rfl, gw_at 973 (by decide +kernel) rfl, gw_at 975 (by decide +kernel) rfl, gw_pr 29 (by decide +kernel) rfl, gw_at 10 (by decide +kernel) rfl⟩
theorem ml_X9_93 : LV RX9 93 9 mX9_span 1 := ⟨by decide, lc_X9_span, rfl, gw_at 986 (by decide +kernel) rfl, gw_at 988 (by decide +kernel) rfl, gw_pr 32 (by decide +kernel) rfl, gw_at 10 (by decide +kernel) rfl⟩
theorem ml_X9_96 : LV RX9 96 9 mX9_levelFor 1 := ⟨by decide, lc_X9_levelFor, rfl, gw_at 982 (by decide +kernel) rfl, gw_at 984 (by decide +kernel) rfl, gw_pr 31 (by decide +kernel) rfl, gw_at 10 (by decide +kernel) rfl⟩
theorem ml_X9_99 : LV RX9 99 9 mX9_goes 1 := ⟨by decide, lc_X9_goes, rfl, gw_at 969 (by decide +kernel) rfl, gw_at 971 (by decide +kernel) rfl, gw_pr 28 (by decide +kernel) rfl, gw_at 10 (by decide +kernel) rfl⟩
theorem ml_X9_102 : LV RX9 102 9 mX9_lays 1 := ⟨by decide, lc_X9_lays, rfl, gw_at 978 (by decide +kernel) rfl, gw_at 980 (by decide +kernel) rfl, gw_pr 30 (by decide +kernel) rfl, gw_at 10 (by decide +kernel) rfl⟩
theorem ml_X9_106 : LV RX9 106 9 mX9_more 2 := ⟨by decide, lc_X9_more, rfl, gw_at 1008 (by decide +kernel) rfl, gw_at 1010 (by decide +kernel) rfl, gw_pr 35 (by decide +kernel) rfl, gw_at 10 (by decide +kernel) rfl⟩
theorem fl_X9_109 : FL RX9 109 9 10 := ⟨by decide, by decide, gw_at 889 (by decide +kernel) rfl⟩
theorem ml_X9_112 : LV RX9 112 9 mX9_isSooner 3 := ⟨by decide, lc_X9_isSooner, rfl, gw_at 1024 (by decide +kernel) rfl, gw_at 1026 (by decide +kernel) rfl, gw_pr 39 (by decide +kernel) rfl, gw_at 10 (by decide +kernel) rfl⟩
theorem ml_X9_116 : LV RX9 116 9 mX9_isAhead 2 := ⟨by decide, lc_X9_isAhead, rfl, gw_at 1028 (by decide +kernel) rfl, gw_at 1030 (by decide +kernel) rfl, gw_pr 40 (by decide +kernel) rfl, gw_at 10 (by decide +kernel) rfl⟩
theorem ms_X9_120 : Lst RX9 120 mJ9_min_7cf53 2 := ⟨lc_J9_min_7cf53, gw_at 1044 (by decide +kernel) rfl, gw_at 442 (by decide +kernel) rfl, gw_at 11 (by decide +kernel) rfl⟩
theorem ml_X9_126 : LV RX9 126 9 mX9_keepsRung 1 := ⟨by decide, lc_X9_keepsRung, rfl, gw_at 1036 (by decide +kernel) rfl, gw_at 1038 (by decide +kernel) rfl, gw_pr 42 (by decide +kernel) rfl, gw_at 10 (by decide +kernel) rfl⟩
theorem fl_X9_129 : FL RX9 129 9 13 := ⟨by decide, by decide, gw_at 892 (by decide +kernel) rfl⟩
theorem ml_X9_132 : LV RX9 132 9 mX9_comesAgain 1 := ⟨by decide, lc_X9_comesAgain, rfl, gw_at 1040 (by decide +kernel) rfl, gw_at 1042 (by decide +kernel) rfl, gw_pr 43 (by decide +kernel) rfl, gw_at 10 (by decide +kernel) rfl⟩
theorem ml_X9_135 : LV RX9 135 9 mX9_whole 0 := ⟨by decide, lc_X9_whole, rfl, gw_at 1012 (by decide +kernel) rfl, gw_at 1014 (by decide +kernel) rfl, gw_pr 36 (by decide +kernel) rfl, gw_at 10 (by decide +kernel) rfl⟩
theorem ml_X9_139 : LV RX9 139 9 mX9_moves1 1 := ⟨by decide, lc_X9_moves1, rfl, gw_at 1016 (by decide +kernel) rfl, gw_at 1018 (by decide +kernel) rfl, gw_pr 37 (by decide +kernel) rfl, gw_at 10 (by decide +kernel) rfl⟩
theorem ml_X9_142 : LV RX9 142 9 mX9_queues 2 := ⟨by decide, lc_X9_queues, rfl, gw_at 1020 (by decide +kernel) rfl, gw_at 1022 (by decide +kernel) rfl, gw_pr 38 (by decide +kernel) rfl, gw_at 10 (by decide +kernel) rfl⟩
theorem ml_X9_146 : LV RX9 146 9 mX9_ringsAll 1 := ⟨by decide, lc_X9_ringsAll, rfl, gw_at 1032 (by decide +kernel) rfl, gw_at 1034 (by decide +kernel) rfl, gw_pr 41 (by decide +kernel) rfl, gw_at 10 (by decide +kernel) rfl⟩
theorem ms_X9_150 : Lst RX9 150 mJ9_max_7cf53 2 := ⟨lc_J9_max_7cf53, gw_at 1049 (by decide +kernel) rfl, gw_at 715 (by decide +kernel) rfl, gw_at 11 (by decide +kernel) rfl⟩
theorem ml_X9_153 : LV RX9 153 9 mX9_enters 1 := ⟨by decide, lc_X9_enters, rfl, gw_at 1050 (by decide +kernel) rfl, gw_at 1052 (by decide +kernel) rfl, gw_pr 45 (by decide +kernel) rfl, gw_at 10 (by decide +kernel) rfl⟩
theorem kc_X9_157 : Cond.constant RX9 157 (1000000000) ∈ gw := gw_at 1003 (by decide +kernel) rfl
theorem ml_X9_158 : LV RX9 158 9 mX9_tick 0 := ⟨by decide, lc_X9_tick, rfl, gw_at 1004 (by decide +kernel) rfl, gw_at 1006 (by decide +kernel) rfl, gw_pr 34 (by decide +kernel) rfl, gw_at 10 (by decide +kernel) rfl⟩
theorem kc_X9_161 : Cond.constantLong RX9 161 (1000000000) ∈ gw := gw_at 1067 (by decide +kernel) rfl
theorem ms_X9_163 : Lst RX9 163 mJ9_abs_0f7a4 1 := ⟨lc_J9_abs_0f7a4, gw_at 1068 (by decide +kernel) rfl, gw_at 1069 (by decide +kernel) rfl, gw_at 11 (by decide +kernel) rfl⟩
theorem ml_X9_166 : LV RX9 166 9 mX9_laysAll 0 := ⟨by decide, lc_X9_laysAll, rfl, gw_at 965 (by decide +kernel) rfl, gw_at 967 (by decide +kernel) rfl, gw_pr 27 (by decide +kernel) rfl, gw_at 10 (by decide +kernel) rfl⟩
theorem kc_X9_169 : Cond.constantLong RX9 169 (2) ∈ gw := gw_at 951 (by decide +kernel) rfl
theorem kc_X9_171 : Cond.constantLong RX9 171 (16) ∈ gw := gw_at 952 (by decide +kernel) rfl
theorem ml_X9_173 : LV RX9 173 9 mX9_wishes 4 := ⟨by decide, lc_X9_wishes, rfl, gw_at 947 (by decide +kernel) rfl, gw_at 949 (by decide +kernel) rfl, gw_pr 23 (by decide +kernel) rfl, gw_at 10 (by decide +kernel) rfl⟩
theorem ml_X9_177 : LV RX9 177 9 mX9_isAsWished 1 := ⟨by decide, lc_X9_isAsWished, rfl, gw_at 953 (by decide +kernel) rfl, gw_at 955 (by decide +kernel) rfl, gw_pr 24 (by decide +kernel) rfl, gw_at 10 (by decide +kernel) rfl⟩
theorem ml_X9_180 : LV RX9 180 9 mX9_laysWished 1 := ⟨by decide, lc_X9_laysWished, rfl, gw_at 961 (by decide +kernel) rfl, gw_at 963 (by decide +kernel) rfl, gw_pr 26 (by decide +kernel) rfl, gw_at 10 (by decide +kernel) rfl⟩
theorem kc_X9_183 : Cond.constantLong RX9 183 (100) ∈ gw := gw_at 998 (by decide +kernel) rfl
theorem ml_X9_185 : LV RX9 185 9 mX9_ticksOf 1 := ⟨by decide, lc_X9_ticksOf, rfl, gw_at 999 (by decide +kernel) rfl, gw_at 1001 (by decide +kernel) rfl, gw_pr 33 (by decide +kernel) rfl, gw_at 10 (by decide +kernel) rfl⟩
theorem ml_X9_188 : LV RX9 188 9 mX9_tellsLatest 0 := ⟨by decide, lc_X9_tellsLatest, rfl, gw_at 1045 (by decide +kernel) rfl, gw_at 1047 (by decide +kernel) rfl, gw_pr 44 (by decide +kernel) rfl, gw_at 10 (by decide +kernel) rfl⟩
theorem kc_X9_191 : Cond.constantLong RX9 191 (-1000000) ∈ gw := gw_at 1061 (by decide +kernel) rfl
theorem kc_X9_193 : Cond.constantLong RX9 193 (1000000) ∈ gw := gw_at 1062 (by decide +kernel) rfl
theorem ms_X9_195 : Lst RX9 195 mX9_isLeap 1 := ⟨lc_X9_isLeap, gw_at 1058 (by decide +kernel) rfl, gw_at 1059 (by decide +kernel) rfl, gw_at 10 (by decide +kernel) rfl⟩
theorem ml_X9_198 : LV RX9 198 9 mX9_leapsBy 1 := ⟨by decide, lc_X9_leapsBy, rfl, gw_at 1063 (by decide +kernel) rfl, gw_at 1065 (by decide +kernel) rfl, gw_pr 46 (by decide +kernel) rfl, gw_at 10 (by decide +kernel) rfl⟩
theorem kc_X9_201 : Cond.constantLong RX9 201 (7) ∈ gw := gw_at 1075 (by decide +kernel) rfl
theorem kc_X9_203 : Cond.constantLong RX9 203 (3) ∈ gw := gw_at 1076 (by decide +kernel) rfl
theorem kc_X9_205 : Cond.constantLong RX9 205 (1000) ∈ gw := gw_at 1077 (by decide +kernel) rfl
theorem kc_X9_207 : Cond.constantLong RX9 207 (99) ∈ gw := gw_at 1078 (by decide +kernel) rfl
theorem ml_X9_209 : LV RX9 209 9 mX9_setsOne 5 := ⟨by decide, lc_X9_setsOne, rfl, gw_at 1079 (by decide +kernel) rfl, gw_at 1081 (by decide +kernel) rfl, gw_pr 47 (by decide +kernel) rfl, gw_at 10 (by decide +kernel) rfl⟩
theorem ml_X9_213 : LV RX9 213 9 mX9_many 0 := ⟨by decide, lc_X9_many, rfl, gw_at 1091 (by decide +kernel) rfl, gw_at 1093 (by decide +kernel) rfl, gw_pr 49 (by decide +kernel) rfl, gw_at 10 (by decide +kernel) rfl⟩
theorem ml_X9_216 : LV RX9 216 9 mX9_cancelsOne 1 := ⟨by decide, lc_X9_cancelsOne, rfl, gw_at 1087 (by decide +kernel) rfl, gw_at 1089 (by decide +kernel) rfl, gw_pr 48 (by decide +kernel) rfl, gw_at 10 (by decide +kernel) rfl⟩
theorem ml_X9_219 : LV RX9 219 9 mX9_pausesOne 1 := ⟨by decide, lc_X9_pausesOne, rfl, gw_at 1110 (by decide +kernel) rfl, gw_at 1112 (by decide +kernel) rfl, gw_pr 50 (by decide +kernel) rfl, gw_at 10 (by decide +kernel) rfl⟩
theorem ml_X9_222 : LV RX9 222 9 mX9_resumesOne 1 := ⟨by decide, lc_X9_resumesOne, rfl, gw_at 1118 (by decide +kernel) rfl, gw_at 1120 (by decide +kernel) rfl, gw_pr 51 (by decide +kernel) rfl, gw_at 10 (by decide +kernel) rfl⟩
theorem ms_X9_225 : Lst RX9 225 mX9_isGroup 1 := ⟨lc_X9_isGroup, gw_at 1130 (by decide +kernel) rfl, gw_at 1131 (by decide +kernel) rfl, gw_at 10 (by decide +kernel) rfl⟩
theorem ml_X9_228 : LV RX9 228 9 mX9_takes 1 := ⟨by decide, lc_X9_takes, rfl, gw_at 1145 (by decide +kernel) rfl, gw_at 1147 (by decide +kernel) rfl, gw_pr 52 (by decide +kernel) rfl, gw_at 10 (by decide +kernel) rfl⟩
theorem ml_X9_231 : LV RX9 231 9 mX9_number 3 := ⟨by decide, lc_X9_number, rfl, gw_at 1153 (by decide +kernel) rfl, gw_at 1155 (by decide +kernel) rfl, gw_pr 54 (by decide +kernel) rfl, gw_at 10 (by decide +kernel) rfl⟩
theorem ml_X9_235 : LV RX9 235 9 mX9_readsAct 1 := ⟨by decide, lc_X9_readsAct, rfl, gw_at 1149 (by decide +kernel) rfl, gw_at 1151 (by decide +kernel) rfl, gw_pr 53 (by decide +kernel) rfl, gw_at 10 (by decide +kernel) rfl⟩
theorem ml_X9_238 : LV RX9 238 9 mX9_doesAct 1 := ⟨by decide, lc_X9_doesAct, rfl, gw_at 1163 (by decide +kernel) rfl, gw_at 1165 (by decide +kernel) rfl, gw_pr 56 (by decide +kernel) rfl, gw_at 10 (by decide +kernel) rfl⟩
theorem kc_X9_241 : Cond.constantLong RX9 241 (10) ∈ gw := gw_at 1171 (by decide +kernel) rfl
theorem ml_X9_243 : LV RX9 243 9 mX9_tellsLine 0 := ⟨by decide, lc_X9_tellsLine, rfl, gw_at 1176 (by decide +kernel) rfl, gw_at 1178 (by decide +kernel) rfl, gw_pr 57 (by decide +kernel) rfl, gw_at 10 (by decide +kernel) rfl⟩
theorem ml_X9_246 : LV RX9 246 9 mX9_tries 0 := ⟨by decide, lc_X9_tries, rfl, gw_at 1184 (by decide +kernel) rfl, gw_at 1186 (by decide +kernel) rfl, gw_pr 58 (by decide +kernel) rfl, gw_at 10 (by decide +kernel) rfl⟩
theorem ml_X9_249 : LV RX9 249 9 mX9_isBack 0 := ⟨by decide, lc_X9_isBack, rfl, gw_at 1188 (by decide +kernel) rfl, gw_at 1190 (by decide +kernel) rfl, gw_pr 59 (by decide +kernel) rfl, gw_at 10 (by decide +kernel) rfl⟩
theorem ml_X9_252 : LV RX9 252 9 mX9_tellsFirst 0 := ⟨by decide, lc_X9_tellsFirst, rfl, gw_at 1208 (by decide +kernel) rfl, gw_at 1210 (by decide +kernel) rfl, gw_pr 60 (by decide +kernel) rfl, gw_at 10 (by decide +kernel) rfl⟩
theorem ml_X9_255 : LV RX9 255 9 mX9_ways 2 := ⟨by decide, lc_X9_ways, rfl, gw_at 1224 (by decide +kernel) rfl, gw_at 1226 (by decide +kernel) rfl, gw_pr 62 (by decide +kernel) rfl, gw_at 10 (by decide +kernel) rfl⟩
theorem ml_X9_258 : LV RX9 258 9 mX9_movesOf 1 := ⟨by decide, lc_X9_movesOf, rfl, gw_at 1220 (by decide +kernel) rfl, gw_at 1222 (by decide +kernel) rfl, gw_pr 61 (by decide +kernel) rfl, gw_at 10 (by decide +kernel) rfl⟩
theorem fl_X9_261 : FL RX9 261 9 18 := ⟨by decide, by decide, gw_at 897 (by decide +kernel) rfl⟩
theorem fl_X9_264 : FL RX9 264 9 19 := ⟨by decide, by decide, gw_at 898 (by decide +kernel) rfl⟩
theorem ml_X9_267 : LV RX9 267 9 mX9_costOf 1 := ⟨by decide, lc_X9_costOf, rfl, gw_at 1236 (by decide +kernel) rfl, gw_at 1238 (by decide +kernel) rfl, gw_pr 63 (by decide +kernel) rfl, gw_at 10 (by decide +kernel) rfl⟩
theorem kc_X9_270 : Cond.constantLong RX9 270 (4) ∈ gw := gw_at 1244 (by decide +kernel) rfl
theorem kc_X9_272 : Cond.constantLong RX9 272 (-1) ∈ gw := gw_at 1253 (by decide +kernel) rfl
theorem kc_X9_274 : Cond.constantLong RX9 274 (6) ∈ gw := gw_at 1278 (by decide +kernel) rfl
theorem kc_X9_276 : Cond.constantLong RX9 276 (13) ∈ gw := gw_at 1283 (by decide +kernel) rfl
theorem ml_X9_278 : LV RX9 278 9 mX9_pausedMany 0 := ⟨by decide, lc_X9_pausedMany, rfl, gw_at 1284 (by decide +kernel) rfl, gw_at 1286 (by decide +kernel) rfl, gw_pr 64 (by decide +kernel) rfl, gw_at 10 (by decide +kernel) rfl⟩
theorem ml_X9_281 : LV RX9 281 9 mX9_farMany 0 := ⟨by decide, lc_X9_farMany, rfl, gw_at 1288 (by decide +kernel) rfl, gw_at 1290 (by decide +kernel) rfl, gw_pr 65 (by decide +kernel) rfl, gw_at 10 (by decide +kernel) rfl⟩
end
section
theorem dX0_init_0 : decode cX0_init 0 = .ok (.aload_n 0, 1) := by decide +kernel
theorem dX0_init_1 : decode cX0_init 1 = .ok (.invokespecial 3, 3) := by decide +kernel
theorem dX0_init_4 : decode cX0_init 4 = .ok (.aload_n 0, 1) := by decide +kernel
theorem dX0_init_5 : decode cX0_init 5 = .ok (.bipush 34, 2) := by decide +kernel
theorem dX0_init_7 : decode cX0_init 7 = .ok (.newarray .int, 2) := by decide +kernel
theorem dX0_init_9 : decode cX0_init 9 = .ok (.putfield 9, 3) := by decide +kernel
theorem dX0_init_12 : decode cX0_init 12 = .ok (.aload_n 0, 1) := by decide +kernel
theorem dX0_init_13 : decode cX0_init 13 = .ok (.bipush 34, 2) := by decide +kernel
theorem dX0_init_15 : decode cX0_init 15 = .ok (.newarray .int, 2) := by decide +kernel
theorem dX0_init_17 : decode cX0_init 17 = .ok (.putfield 15, 3) := by decide +kernel
theorem dX0_init_20 : decode cX0_init 20 = .ok (.aload_n 0, 1) := by decide +kernel
theorem dX0_init_21 : decode cX0_init 21 = .ok (.bipush 34, 2) := by decide +kernel
theorem dX0_init_23 : decode cX0_init 23 = .ok (.newarray .int, 2) := by decide +kernel
theorem dX0_init_25 : decode cX0_init 25 = .ok (.putfield 18, 3) := by decide +kernel
theorem dX0_init_28 : decode cX0_init 28 = .ok (.aload_n 0, 1) := by decide +kernel
theorem dX0_init_29 : decode cX0_init 29 = .ok (.bipush 34, 2) := by decide +kernel
theorem dX0_init_31 : decode cX0_init 31 = .ok (.newarray .int, 2) := by decide +kernel
theorem dX0_init_33 : decode cX0_init 33 = .ok (.putfield 21, 3) := by decide +kernel
theorem dX0_init_36 : decode cX0_init 36 = .ok (.return_, 1) := by decide +kernel
theorem dX0_readsAll_0 : decode cX0_readsAll 0 = .ok (.aload_n 0, 1) := by decide +kernel
theorem dX0_readsAll_1 : decode cX0_readsAll 1 = .ok (.iconst 0, 1) := by decide +kernel
theorem dX0_readsAll_2 : decode cX0_readsAll 2 = .ok (.putfield 24, 3) := by decide +kernel
theorem dX0_readsAll_5 : decode cX0_readsAll 5 = .ok (.aload_n 0, 1) := by decide +kernel
theorem dX0_readsAll_6 : decode cX0_readsAll 6 = .ok (.iconst 0, 1) := by decide +kernel
theorem dX0_readsAll_7 : decode cX0_readsAll 7 = .ok (.putfield 28, 3) := by decide +kernel
theorem dX0_readsAll_10 : decode cX0_readsAll 10 = .ok (.aload_n 0, 1) := by decide +kernel
theorem dX0_readsAll_11 : decode cX0_readsAll 11 = .ok (.iconst 0, 1) := by decide +kernel
theorem dX0_readsAll_12 : decode cX0_readsAll 12 = .ok (.putfield 31, 3) := by decide +kernel
theorem dX0_readsAll_15 : decode cX0_readsAll 15 = .ok (.aload_n 1, 1) := by decide +kernel
theorem dX0_readsAll_16 : decode cX0_readsAll 16 = .ok (.getfield 34, 3) := by decide +kernel
theorem dX0_readsAll_19 : decode cX0_readsAll 19 = .ok (.ifCond .ne 5, 3) := by decide +kernel
theorem dX0_readsAll_22 : decode cX0_readsAll 22 = .ok (.iconst 1, 1) := by decide +kernel
theorem dX0_readsAll_23 : decode cX0_readsAll 23 = .ok (.ireturn, 1) := by decide +kernel
theorem dX0_readsAll_24 : decode cX0_readsAll 24 = .ok (.aload_n 0, 1) := by decide +kernel
theorem dX0_readsAll_25 : decode cX0_readsAll 25 = .ok (.getfield 24, 3) := by decide +kernel
theorem dX0_readsAll_28 : decode cX0_readsAll 28 = .ok (.ifCond .lt 57, 3) := by decide +kernel
theorem dX0_readsAll_31 : decode cX0_readsAll 31 = .ok (.aload_n 0, 1) := by decide +kernel
theorem dX0_readsAll_32 : decode cX0_readsAll 32 = .ok (.getfield 24, 3) := by decide +kernel
theorem dX0_readsAll_35 : decode cX0_readsAll 35 = .ok (.bipush 34, 2) := by decide +kernel
theorem dX0_readsAll_37 : decode cX0_readsAll 37 = .ok (.if_icmp .ge 48, 3) := by decide +kernel
theorem dX0_readsAll_40 : decode cX0_readsAll 40 = .ok (.aload_n 0, 1) := by decide +kernel
theorem dX0_readsAll_41 : decode cX0_readsAll 41 = .ok (.aload_n 1, 1) := by decide +kernel
theorem dX0_readsAll_42 : decode cX0_readsAll 42 = .ok (.invokevirtual 37, 3) := by decide +kernel
theorem dX0_readsAll_45 : decode cX0_readsAll 45 = .ok (.ifCond .ne 5, 3) := by decide +kernel
theorem dX0_readsAll_48 : decode cX0_readsAll 48 = .ok (.iconst 0, 1) := by decide +kernel
theorem dX0_readsAll_49 : decode cX0_readsAll 49 = .ok (.ireturn, 1) := by decide +kernel
theorem dX0_readsAll_50 : decode cX0_readsAll 50 = .ok (.aload_n 0, 1) := by decide +kernel
theorem dX0_readsAll_51 : decode cX0_readsAll 51 = .ok (.dup, 1) := by decide +kernel
theorem dX0_readsAll_52 : decode cX0_readsAll 52 = .ok (.getfield 24, 3) := by decide +kernel
theorem dX0_readsAll_55 : decode cX0_readsAll 55 = .ok (.iconst 1, 1) := by decide +kernel
theorem dX0_readsAll_56 : decode cX0_readsAll 56 = .ok (.iadd, 1) := by decide +kernel
theorem dX0_readsAll_57 : decode cX0_readsAll 57 = .ok (.putfield 24, 3) := by decide +kernel
theorem dX0_readsAll_60 : decode cX0_readsAll 60 = .ok (.aload_n 0, 1) := by decide +kernel
theorem dX0_readsAll_61 : decode cX0_readsAll 61 = .ok (.getfield 28, 3) := by decide +kernel
theorem dX0_readsAll_64 : decode cX0_readsAll 64 = .ok (.aload_n 1, 1) := by decide +kernel
theorem dX0_readsAll_65 : decode cX0_readsAll 65 = .ok (.getfield 34, 3) := by decide +kernel
theorem dX0_readsAll_68 : decode cX0_readsAll 68 = .ok (.if_icmp .lt 5, 3) := by decide +kernel
theorem dX0_readsAll_71 : decode cX0_readsAll 71 = .ok (.iconst 1, 1) := by decide +kernel
theorem dX0_readsAll_72 : decode cX0_readsAll 72 = .ok (.ireturn, 1) := by decide +kernel
theorem dX0_readsAll_73 : decode cX0_readsAll 73 = .ok (.aload_n 0, 1) := by decide +kernel
theorem dX0_readsAll_74 : decode cX0_readsAll 74 = .ok (.aload_n 1, 1) := by decide +kernel
theorem dX0_readsAll_75 : decode cX0_readsAll 75 = .ok (.bipush 59, 2) := by decide +kernel
theorem dX0_readsAll_77 : decode cX0_readsAll 77 = .ok (.invokevirtual 41, 3) := by decide +kernel
theorem dX0_readsAll_80 : decode cX0_readsAll 80 = .ok (.ifCond .ne (-56), 3) := by decide +kernel
theorem dX0_readsAll_83 : decode cX0_readsAll 83 = .ok (.iconst 0, 1) := by decide +kernel
theorem dX0_readsAll_84 : decode cX0_readsAll 84 = .ok (.ireturn, 1) := by decide +kernel
theorem dX0_readsAll_85 : decode cX0_readsAll 85 = .ok (.aload_n 0, 1) := by decide +kernel
theorem dX0_readsAll_86 : decode cX0_readsAll 86 = .ok (.aload_n 0, 1) := by decide +kernel
theorem dX0_readsAll_87 : decode cX0_readsAll 87 = .ok (.getfield 28, 3) := by decide +kernel
theorem dX0_readsAll_90 : decode cX0_readsAll 90 = .ok (.invokevirtual 45, 3) := by decide +kernel
theorem dX0_readsAll_93 : decode cX0_readsAll 93 = .ok (.ireturn, 1) := by decide +kernel
theorem dX0_readsAct_0 : decode cX0_readsAct 0 = .ok (.aload_n 1, 1) := by decide +kernel
theorem dX0_readsAct_1 : decode cX0_readsAct 1 = .ok (.aload_n 0, 1) := by decide +kernel
theorem dX0_readsAct_2 : decode cX0_readsAct 2 = .ok (.getfield 28, 3) := by decide +kernel
theorem dX0_readsAct_5 : decode cX0_readsAct 5 = .ok (.invokevirtual 49, 3) := by decide +kernel
theorem dX0_readsAct_8 : decode cX0_readsAct 8 = .ok (.istore_n 2, 1) := by decide +kernel
theorem dX0_readsAct_9 : decode cX0_readsAct 9 = .ok (.aload_n 0, 1) := by decide +kernel
theorem dX0_readsAct_10 : decode cX0_readsAct 10 = .ok (.getfield 24, 3) := by decide +kernel
theorem dX0_readsAct_13 : decode cX0_readsAct 13 = .ok (.ifCond .lt 12, 3) := by decide +kernel
theorem dX0_readsAct_16 : decode cX0_readsAct 16 = .ok (.aload_n 0, 1) := by decide +kernel
theorem dX0_readsAct_17 : decode cX0_readsAct 17 = .ok (.getfield 24, 3) := by decide +kernel
theorem dX0_readsAct_20 : decode cX0_readsAct 20 = .ok (.bipush 34, 2) := by decide +kernel
theorem dX0_readsAct_22 : decode cX0_readsAct 22 = .ok (.if_icmp .lt 12, 3) := by decide +kernel
theorem dX0_readsAct_25 : decode cX0_readsAct 25 = .ok (.aload_n 0, 1) := by decide +kernel
theorem dX0_readsAct_26 : decode cX0_readsAct 26 = .ok (.aload_n 0, 1) := by decide +kernel
theorem dX0_readsAct_27 : decode cX0_readsAct 27 = .ok (.getfield 28, 3) := by decide +kernel
theorem dX0_readsAct_30 : decode cX0_readsAct 30 = .ok (.invokevirtual 45, 3) := by decide +kernel
theorem dX0_readsAct_33 : decode cX0_readsAct 33 = .ok (.ireturn, 1) := by decide +kernel
theorem dX0_readsAct_34 : decode cX0_readsAct 34 = .ok (.aload_n 0, 1) := by decide +kernel
theorem dX0_readsAct_35 : decode cX0_readsAct 35 = .ok (.getfield 9, 3) := by decide +kernel
theorem dX0_readsAct_38 : decode cX0_readsAct 38 = .ok (.aload_n 0, 1) := by decide +kernel
theorem dX0_readsAct_39 : decode cX0_readsAct 39 = .ok (.getfield 24, 3) := by decide +kernel
theorem dX0_readsAct_42 : decode cX0_readsAct 42 = .ok (.iload_n 2, 1) := by decide +kernel
theorem dX0_readsAct_43 : decode cX0_readsAct 43 = .ok (.iastore, 1) := by decide +kernel
theorem dX0_readsAct_44 : decode cX0_readsAct 44 = .ok (.aload_n 0, 1) := by decide +kernel
theorem dX0_readsAct_45 : decode cX0_readsAct 45 = .ok (.dup, 1) := by decide +kernel
theorem dX0_readsAct_46 : decode cX0_readsAct 46 = .ok (.getfield 28, 3) := by decide +kernel
theorem dX0_readsAct_49 : decode cX0_readsAct 49 = .ok (.iconst 1, 1) := by decide +kernel
theorem dX0_readsAct_50 : decode cX0_readsAct 50 = .ok (.iadd, 1) := by decide +kernel
theorem dX0_readsAct_51 : decode cX0_readsAct 51 = .ok (.putfield 28, 3) := by decide +kernel
theorem dX0_readsAct_54 : decode cX0_readsAct 54 = .ok (.iload_n 2, 1) := by decide +kernel
theorem dX0_readsAct_55 : decode cX0_readsAct 55 = .ok (.lookupswitch 103 #[(99, 78), (108, 72), (115, 41), (116, 47)], 41) := by decide +kernel
theorem dX0_readsAct_96 : decode cX0_readsAct 96 = .ok (.aload_n 0, 1) := by decide +kernel
theorem dX0_readsAct_97 : decode cX0_readsAct 97 = .ok (.aload_n 1, 1) := by decide +kernel
theorem dX0_readsAct_98 : decode cX0_readsAct 98 = .ok (.invokevirtual 53, 3) := by decide +kernel
theorem dX0_readsAct_101 : decode cX0_readsAct 101 = .ok (.ireturn, 1) := by decide +kernel
theorem dX0_readsAct_102 : decode cX0_readsAct 102 = .ok (.aload_n 0, 1) := by decide +kernel
theorem dX0_readsAct_103 : decode cX0_readsAct 103 = .ok (.aload_n 1, 1) := by decide +kernel
theorem dX0_readsAct_104 : decode cX0_readsAct 104 = .ok (.iconst 1, 1) := by decide +kernel
theorem dX0_readsAct_105 : decode cX0_readsAct 105 = .ok (.iconst 1, 1) := by decide +kernel
theorem dX0_readsAct_106 : decode cX0_readsAct 106 = .ok (.bipush 9, 2) := by decide +kernel
theorem dX0_readsAct_108 : decode cX0_readsAct 108 = .ok (.invokevirtual 56, 3) := by decide +kernel
theorem dX0_readsAct_111 : decode cX0_readsAct 111 = .ok (.ifCond .eq 14, 3) := by decide +kernel
theorem dX0_readsAct_114 : decode cX0_readsAct 114 = .ok (.aload_n 0, 1) := by decide +kernel
theorem dX0_readsAct_115 : decode cX0_readsAct 115 = .ok (.invokevirtual 60, 3) := by decide +kernel
theorem dX0_readsAct_118 : decode cX0_readsAct 118 = .ok (.ifCond .eq 7, 3) := by decide +kernel
theorem dX0_readsAct_121 : decode cX0_readsAct 121 = .ok (.iconst 1, 1) := by decide +kernel
theorem dX0_readsAct_122 : decode cX0_readsAct 122 = .ok (.goto 4, 3) := by decide +kernel
theorem dX0_readsAct_125 : decode cX0_readsAct 125 = .ok (.iconst 0, 1) := by decide +kernel
theorem dX0_readsAct_126 : decode cX0_readsAct 126 = .ok (.ireturn, 1) := by decide +kernel
theorem dX0_readsAct_127 : decode cX0_readsAct 127 = .ok (.aload_n 0, 1) := by decide +kernel
theorem dX0_readsAct_128 : decode cX0_readsAct 128 = .ok (.aload_n 1, 1) := by decide +kernel
theorem dX0_readsAct_129 : decode cX0_readsAct 129 = .ok (.invokevirtual 64, 3) := by decide +kernel
theorem dX0_readsAct_132 : decode cX0_readsAct 132 = .ok (.ireturn, 1) := by decide +kernel
theorem dX0_readsAct_133 : decode cX0_readsAct 133 = .ok (.aload_n 0, 1) := by decide +kernel
theorem dX0_readsAct_134 : decode cX0_readsAct 134 = .ok (.aload_n 1, 1) := by decide +kernel
theorem dX0_readsAct_135 : decode cX0_readsAct 135 = .ok (.iconst 2, 1) := by decide +kernel
theorem dX0_readsAct_136 : decode cX0_readsAct 136 = .ok (.iconst 0, 1) := by decide +kernel
theorem dX0_readsAct_137 : decode cX0_readsAct 137 = .ok (.bipush 99, 2) := by decide +kernel
theorem dX0_readsAct_139 : decode cX0_readsAct 139 = .ok (.invokevirtual 56, 3) := by decide +kernel
theorem dX0_readsAct_142 : decode cX0_readsAct 142 = .ok (.ifCond .eq 14, 3) := by decide +kernel
theorem dX0_readsAct_145 : decode cX0_readsAct 145 = .ok (.aload_n 0, 1) := by decide +kernel
theorem dX0_readsAct_146 : decode cX0_readsAct 146 = .ok (.invokevirtual 60, 3) := by decide +kernel
theorem dX0_readsAct_149 : decode cX0_readsAct 149 = .ok (.ifCond .eq 7, 3) := by decide +kernel
theorem dX0_readsAct_152 : decode cX0_readsAct 152 = .ok (.iconst 1, 1) := by decide +kernel
theorem dX0_readsAct_153 : decode cX0_readsAct 153 = .ok (.goto 4, 3) := by decide +kernel
theorem dX0_readsAct_156 : decode cX0_readsAct 156 = .ok (.iconst 0, 1) := by decide +kernel
theorem dX0_readsAct_157 : decode cX0_readsAct 157 = .ok (.ireturn, 1) := by decide +kernel
theorem dX0_readsAct_158 : decode cX0_readsAct 158 = .ok (.aload_n 0, 1) := by decide +kernel
theorem dX0_readsAct_159 : decode cX0_readsAct 159 = .ok (.aload_n 0, 1) := by decide +kernel
theorem dX0_readsAct_160 : decode cX0_readsAct 160 = .ok (.getfield 28, 3) := by decide +kernel
theorem dX0_readsAct_163 : decode cX0_readsAct 163 = .ok (.iconst 1, 1) := by decide +kernel
theorem dX0_readsAct_164 : decode cX0_readsAct 164 = .ok (.isub, 1) := by decide +kernel
theorem dX0_readsAct_165 : decode cX0_readsAct 165 = .ok (.invokevirtual 45, 3) := by decide +kernel
theorem dX0_readsAct_168 : decode cX0_readsAct 168 = .ok (.ireturn, 1) := by decide +kernel
theorem dX0_readsSet_0 : decode cX0_readsSet 0 = .ok (.aload_n 0, 1) := by decide +kernel
theorem dX0_readsSet_1 : decode cX0_readsSet 1 = .ok (.aload_n 1, 1) := by decide +kernel
theorem dX0_readsSet_2 : decode cX0_readsSet 2 = .ok (.iconst 4, 1) := by decide +kernel
theorem dX0_readsSet_3 : decode cX0_readsSet 3 = .ok (.iconst 1, 1) := by decide +kernel
theorem dX0_readsSet_4 : decode cX0_readsSet 4 = .ok (.sipush 9999, 3) := by decide +kernel
theorem dX0_readsSet_7 : decode cX0_readsSet 7 = .ok (.invokevirtual 56, 3) := by decide +kernel
theorem dX0_readsSet_10 : decode cX0_readsSet 10 = .ok (.ifCond .eq 35, 3) := by decide +kernel
theorem dX0_readsSet_13 : decode cX0_readsSet 13 = .ok (.aload_n 0, 1) := by decide +kernel
theorem dX0_readsSet_14 : decode cX0_readsSet 14 = .ok (.invokevirtual 60, 3) := by decide +kernel
theorem dX0_readsSet_17 : decode cX0_readsSet 17 = .ok (.ifCond .eq 28, 3) := by decide +kernel
theorem dX0_readsSet_20 : decode cX0_readsSet 20 = .ok (.aload_n 0, 1) := by decide +kernel
theorem dX0_readsSet_21 : decode cX0_readsSet 21 = .ok (.aload_n 1, 1) := by decide +kernel
theorem dX0_readsSet_22 : decode cX0_readsSet 22 = .ok (.bipush 44, 2) := by decide +kernel
theorem dX0_readsSet_24 : decode cX0_readsSet 24 = .ok (.invokevirtual 41, 3) := by decide +kernel
theorem dX0_readsSet_27 : decode cX0_readsSet 27 = .ok (.ifCond .eq 18, 3) := by decide +kernel
theorem dX0_readsSet_30 : decode cX0_readsSet 30 = .ok (.aload_n 0, 1) := by decide +kernel
theorem dX0_readsSet_31 : decode cX0_readsSet 31 = .ok (.aload_n 1, 1) := by decide +kernel
theorem dX0_readsSet_32 : decode cX0_readsSet 32 = .ok (.iconst 1, 1) := by decide +kernel
theorem dX0_readsSet_33 : decode cX0_readsSet 33 = .ok (.iconst 0, 1) := by decide +kernel
theorem dX0_readsSet_34 : decode cX0_readsSet 34 = .ok (.iconst 3, 1) := by decide +kernel
theorem dX0_readsSet_35 : decode cX0_readsSet 35 = .ok (.invokevirtual 56, 3) := by decide +kernel
theorem dX0_readsSet_38 : decode cX0_readsSet 38 = .ok (.ifCond .eq 7, 3) := by decide +kernel
theorem dX0_readsSet_41 : decode cX0_readsSet 41 = .ok (.iconst 1, 1) := by decide +kernel
theorem dX0_readsSet_42 : decode cX0_readsSet 42 = .ok (.goto 4, 3) := by decide +kernel
theorem dX0_readsSet_45 : decode cX0_readsSet 45 = .ok (.iconst 0, 1) := by decide +kernel
theorem dX0_readsSet_46 : decode cX0_readsSet 46 = .ok (.istore_n 2, 1) := by decide +kernel
theorem dX0_readsSet_47 : decode cX0_readsSet 47 = .ok (.iload_n 2, 1) := by decide +kernel
theorem dX0_readsSet_48 : decode cX0_readsSet 48 = .ok (.ifCond .eq 19, 3) := by decide +kernel
theorem dX0_readsSet_51 : decode cX0_readsSet 51 = .ok (.aload_n 0, 1) := by decide +kernel
theorem dX0_readsSet_52 : decode cX0_readsSet 52 = .ok (.getfield 24, 3) := by decide +kernel
theorem dX0_readsSet_55 : decode cX0_readsSet 55 = .ok (.ifCond .lt 12, 3) := by decide +kernel
theorem dX0_readsSet_58 : decode cX0_readsSet 58 = .ok (.aload_n 0, 1) := by decide +kernel
theorem dX0_readsSet_59 : decode cX0_readsSet 59 = .ok (.getfield 24, 3) := by decide +kernel
theorem dX0_readsSet_62 : decode cX0_readsSet 62 = .ok (.bipush 34, 2) := by decide +kernel
theorem dX0_readsSet_64 : decode cX0_readsSet 64 = .ok (.if_icmp .lt 5, 3) := by decide +kernel
theorem dX0_readsSet_67 : decode cX0_readsSet 67 = .ok (.iconst 0, 1) := by decide +kernel
theorem dX0_readsSet_68 : decode cX0_readsSet 68 = .ok (.ireturn, 1) := by decide +kernel
theorem dX0_readsSet_69 : decode cX0_readsSet 69 = .ok (.aload_n 0, 1) := by decide +kernel
theorem dX0_readsSet_70 : decode cX0_readsSet 70 = .ok (.getfield 18, 3) := by decide +kernel
theorem dX0_readsSet_73 : decode cX0_readsSet 73 = .ok (.aload_n 0, 1) := by decide +kernel
theorem dX0_readsSet_74 : decode cX0_readsSet 74 = .ok (.getfield 24, 3) := by decide +kernel
theorem dX0_readsSet_77 : decode cX0_readsSet 77 = .ok (.aload_n 0, 1) := by decide +kernel
theorem dX0_readsSet_78 : decode cX0_readsSet 78 = .ok (.getfield 67, 3) := by decide +kernel
theorem dX0_readsSet_81 : decode cX0_readsSet 81 = .ok (.iastore, 1) := by decide +kernel
theorem dX0_readsSet_82 : decode cX0_readsSet 82 = .ok (.aload_n 0, 1) := by decide +kernel
theorem dX0_readsSet_83 : decode cX0_readsSet 83 = .ok (.getfield 21, 3) := by decide +kernel
theorem dX0_readsSet_86 : decode cX0_readsSet 86 = .ok (.aload_n 0, 1) := by decide +kernel
theorem dX0_readsSet_87 : decode cX0_readsSet 87 = .ok (.getfield 24, 3) := by decide +kernel
theorem dX0_readsSet_90 : decode cX0_readsSet 90 = .ok (.iconst 1, 1) := by decide +kernel
theorem dX0_readsSet_91 : decode cX0_readsSet 91 = .ok (.iastore, 1) := by decide +kernel
theorem dX0_readsSet_92 : decode cX0_readsSet 92 = .ok (.aload_n 0, 1) := by decide +kernel
theorem dX0_readsSet_93 : decode cX0_readsSet 93 = .ok (.getfield 67, 3) := by decide +kernel
theorem dX0_readsSet_96 : decode cX0_readsSet 96 = .ok (.ifCond .ne 5, 3) := by decide +kernel
theorem dX0_readsSet_99 : decode cX0_readsSet 99 = .ok (.iconst 1, 1) := by decide +kernel
theorem dX0_readsSet_100 : decode cX0_readsSet 100 = .ok (.ireturn, 1) := by decide +kernel
theorem dX0_readsSet_101 : decode cX0_readsSet 101 = .ok (.aload_n 0, 1) := by decide +kernel
theorem dX0_readsSet_102 : decode cX0_readsSet 102 = .ok (.aload_n 1, 1) := by decide +kernel
theorem dX0_readsSet_103 : decode cX0_readsSet 103 = .ok (.bipush 44, 2) := by decide +kernel
theorem dX0_readsSet_105 : decode cX0_readsSet 105 = .ok (.invokevirtual 41, 3) := by decide +kernel
theorem dX0_readsSet_108 : decode cX0_readsSet 108 = .ok (.ifCond .eq 16, 3) := by decide +kernel
theorem dX0_readsSet_111 : decode cX0_readsSet 111 = .ok (.aload_n 0, 1) := by decide +kernel
theorem dX0_readsSet_112 : decode cX0_readsSet 112 = .ok (.aload_n 1, 1) := by decide +kernel
theorem dX0_readsSet_113 : decode cX0_readsSet 113 = .ok (.iconst 4, 1) := by decide +kernel
theorem dX0_readsSet_114 : decode cX0_readsSet 114 = .ok (.iconst 1, 1) := by decide +kernel
theorem dX0_readsSet_115 : decode cX0_readsSet 115 = .ok (.sipush 1000, 3) := by decide +kernel
theorem dX0_readsSet_118 : decode cX0_readsSet 118 = .ok (.invokevirtual 56, 3) := by decide +kernel
theorem dX0_readsSet_121 : decode cX0_readsSet 121 = .ok (.ifCond .ne 5, 3) := by decide +kernel
theorem dX0_readsSet_124 : decode cX0_readsSet 124 = .ok (.iconst 0, 1) := by decide +kernel
theorem dX0_readsSet_125 : decode cX0_readsSet 125 = .ok (.ireturn, 1) := by decide +kernel
theorem dX0_readsSet_126 : decode cX0_readsSet 126 = .ok (.aload_n 0, 1) := by decide +kernel
theorem dX0_readsSet_127 : decode cX0_readsSet 127 = .ok (.getfield 21, 3) := by decide +kernel
theorem dX0_readsSet_130 : decode cX0_readsSet 130 = .ok (.aload_n 0, 1) := by decide +kernel
theorem dX0_readsSet_131 : decode cX0_readsSet 131 = .ok (.getfield 24, 3) := by decide +kernel
theorem dX0_readsSet_134 : decode cX0_readsSet 134 = .ok (.aload_n 0, 1) := by decide +kernel
theorem dX0_readsSet_135 : decode cX0_readsSet 135 = .ok (.getfield 67, 3) := by decide +kernel
theorem dX0_readsSet_138 : decode cX0_readsSet 138 = .ok (.iastore, 1) := by decide +kernel
theorem dX0_readsSet_139 : decode cX0_readsSet 139 = .ok (.iconst 1, 1) := by decide +kernel
theorem dX0_readsSet_140 : decode cX0_readsSet 140 = .ok (.ireturn, 1) := by decide +kernel
theorem dX0_readsLeap_0 : decode cX0_readsLeap 0 = .ok (.aload_n 1, 1) := by decide +kernel
theorem dX0_readsLeap_1 : decode cX0_readsLeap 1 = .ok (.aload_n 0, 1) := by decide +kernel
theorem dX0_readsLeap_2 : decode cX0_readsLeap 2 = .ok (.getfield 28, 3) := by decide +kernel
theorem dX0_readsLeap_5 : decode cX0_readsLeap 5 = .ok (.invokevirtual 49, 3) := by decide +kernel
theorem dX0_readsLeap_8 : decode cX0_readsLeap 8 = .ok (.bipush 45, 2) := by decide +kernel
theorem dX0_readsLeap_10 : decode cX0_readsLeap 10 = .ok (.if_icmp .ne 7, 3) := by decide +kernel
theorem dX0_readsLeap_13 : decode cX0_readsLeap 13 = .ok (.iconst 1, 1) := by decide +kernel
theorem dX0_readsLeap_14 : decode cX0_readsLeap 14 = .ok (.goto 4, 3) := by decide +kernel
theorem dX0_readsLeap_17 : decode cX0_readsLeap 17 = .ok (.iconst 0, 1) := by decide +kernel
theorem dX0_readsLeap_18 : decode cX0_readsLeap 18 = .ok (.istore_n 2, 1) := by decide +kernel
theorem dX0_readsLeap_19 : decode cX0_readsLeap 19 = .ok (.iload_n 2, 1) := by decide +kernel
theorem dX0_readsLeap_20 : decode cX0_readsLeap 20 = .ok (.ifCond .eq 13, 3) := by decide +kernel
theorem dX0_readsLeap_23 : decode cX0_readsLeap 23 = .ok (.aload_n 0, 1) := by decide +kernel
theorem dX0_readsLeap_24 : decode cX0_readsLeap 24 = .ok (.dup, 1) := by decide +kernel
theorem dX0_readsLeap_25 : decode cX0_readsLeap 25 = .ok (.getfield 28, 3) := by decide +kernel
theorem dX0_readsLeap_28 : decode cX0_readsLeap 28 = .ok (.iconst 1, 1) := by decide +kernel
theorem dX0_readsLeap_29 : decode cX0_readsLeap 29 = .ok (.iadd, 1) := by decide +kernel
theorem dX0_readsLeap_30 : decode cX0_readsLeap 30 = .ok (.putfield 28, 3) := by decide +kernel
theorem dX0_readsLeap_33 : decode cX0_readsLeap 33 = .ok (.aload_n 0, 1) := by decide +kernel
theorem dX0_readsLeap_34 : decode cX0_readsLeap 34 = .ok (.aload_n 1, 1) := by decide +kernel
theorem dX0_readsLeap_35 : decode cX0_readsLeap 35 = .ok (.iconst 4, 1) := by decide +kernel
theorem dX0_readsLeap_36 : decode cX0_readsLeap 36 = .ok (.iconst 1, 1) := by decide +kernel
theorem dX0_readsLeap_37 : decode cX0_readsLeap 37 = .ok (.sipush 9999, 3) := by decide +kernel
theorem dX0_readsLeap_40 : decode cX0_readsLeap 40 = .ok (.invokevirtual 56, 3) := by decide +kernel
theorem dX0_readsLeap_43 : decode cX0_readsLeap 43 = .ok (.ifCond .ne 5, 3) := by decide +kernel
theorem dX0_readsLeap_46 : decode cX0_readsLeap 46 = .ok (.iconst 0, 1) := by decide +kernel
theorem dX0_readsLeap_47 : decode cX0_readsLeap 47 = .ok (.ireturn, 1) := by decide +kernel
theorem dX0_readsLeap_48 : decode cX0_readsLeap 48 = .ok (.aload_n 0, 1) := by decide +kernel
theorem dX0_readsLeap_49 : decode cX0_readsLeap 49 = .ok (.iload_n 2, 1) := by decide +kernel
theorem dX0_readsLeap_50 : decode cX0_readsLeap 50 = .ok (.ifCond .eq 11, 3) := by decide +kernel
theorem dX0_readsLeap_53 : decode cX0_readsLeap 53 = .ok (.aload_n 0, 1) := by decide +kernel
theorem dX0_readsLeap_54 : decode cX0_readsLeap 54 = .ok (.getfield 67, 3) := by decide +kernel
theorem dX0_readsLeap_57 : decode cX0_readsLeap 57 = .ok (.ineg, 1) := by decide +kernel
theorem dX0_readsLeap_58 : decode cX0_readsLeap 58 = .ok (.goto 7, 3) := by decide +kernel
theorem dX0_readsLeap_61 : decode cX0_readsLeap 61 = .ok (.aload_n 0, 1) := by decide +kernel
theorem dX0_readsLeap_62 : decode cX0_readsLeap 62 = .ok (.getfield 67, 3) := by decide +kernel
theorem dX0_readsLeap_65 : decode cX0_readsLeap 65 = .ok (.putfield 67, 3) := by decide +kernel
theorem dX0_readsLeap_68 : decode cX0_readsLeap 68 = .ok (.aload_n 0, 1) := by decide +kernel
theorem dX0_readsLeap_69 : decode cX0_readsLeap 69 = .ok (.invokevirtual 60, 3) := by decide +kernel
theorem dX0_readsLeap_72 : decode cX0_readsLeap 72 = .ok (.ireturn, 1) := by decide +kernel
theorem dX0_keepsNumber_0 : decode cX0_keepsNumber 0 = .ok (.aload_n 0, 1) := by decide +kernel
theorem dX0_keepsNumber_1 : decode cX0_keepsNumber 1 = .ok (.getfield 24, 3) := by decide +kernel
theorem dX0_keepsNumber_4 : decode cX0_keepsNumber 4 = .ok (.ifCond .lt 12, 3) := by decide +kernel
theorem dX0_keepsNumber_7 : decode cX0_keepsNumber 7 = .ok (.aload_n 0, 1) := by decide +kernel
theorem dX0_keepsNumber_8 : decode cX0_keepsNumber 8 = .ok (.getfield 24, 3) := by decide +kernel
theorem dX0_keepsNumber_11 : decode cX0_keepsNumber 11 = .ok (.bipush 34, 2) := by decide +kernel
theorem dX0_keepsNumber_13 : decode cX0_keepsNumber 13 = .ok (.if_icmp .lt 5, 3) := by decide +kernel
theorem dX0_keepsNumber_16 : decode cX0_keepsNumber 16 = .ok (.iconst 0, 1) := by decide +kernel
theorem dX0_keepsNumber_17 : decode cX0_keepsNumber 17 = .ok (.ireturn, 1) := by decide +kernel
theorem dX0_keepsNumber_18 : decode cX0_keepsNumber 18 = .ok (.aload_n 0, 1) := by decide +kernel
theorem dX0_keepsNumber_19 : decode cX0_keepsNumber 19 = .ok (.getfield 15, 3) := by decide +kernel
theorem dX0_keepsNumber_22 : decode cX0_keepsNumber 22 = .ok (.aload_n 0, 1) := by decide +kernel
theorem dX0_keepsNumber_23 : decode cX0_keepsNumber 23 = .ok (.getfield 24, 3) := by decide +kernel
theorem dX0_keepsNumber_26 : decode cX0_keepsNumber 26 = .ok (.aload_n 0, 1) := by decide +kernel
theorem dX0_keepsNumber_27 : decode cX0_keepsNumber 27 = .ok (.getfield 67, 3) := by decide +kernel
theorem dX0_keepsNumber_30 : decode cX0_keepsNumber 30 = .ok (.iastore, 1) := by decide +kernel
theorem dX0_keepsNumber_31 : decode cX0_keepsNumber 31 = .ok (.iconst 1, 1) := by decide +kernel
theorem dX0_keepsNumber_32 : decode cX0_keepsNumber 32 = .ok (.ireturn, 1) := by decide +kernel
theorem dX0_readsNumber_0 : decode cX0_readsNumber 0 = .ok (.aload_n 0, 1) := by decide +kernel
theorem dX0_readsNumber_1 : decode cX0_readsNumber 1 = .ok (.iconst 0, 1) := by decide +kernel
theorem dX0_readsNumber_2 : decode cX0_readsNumber 2 = .ok (.putfield 67, 3) := by decide +kernel
theorem dX0_readsNumber_5 : decode cX0_readsNumber 5 = .ok (.iconst 0, 1) := by decide +kernel
theorem dX0_readsNumber_6 : decode cX0_readsNumber 6 = .ok (.istore 5, 2) := by decide +kernel
theorem dX0_readsNumber_8 : decode cX0_readsNumber 8 = .ok (.iload 5, 2) := by decide +kernel
theorem dX0_readsNumber_10 : decode cX0_readsNumber 10 = .ok (.iload_n 2, 1) := by decide +kernel
theorem dX0_readsNumber_11 : decode cX0_readsNumber 11 = .ok (.if_icmp .ge 56, 3) := by decide +kernel
theorem dX0_readsNumber_14 : decode cX0_readsNumber 14 = .ok (.aload_n 1, 1) := by decide +kernel
theorem dX0_readsNumber_15 : decode cX0_readsNumber 15 = .ok (.aload_n 0, 1) := by decide +kernel
theorem dX0_readsNumber_16 : decode cX0_readsNumber 16 = .ok (.getfield 28, 3) := by decide +kernel
theorem dX0_readsNumber_19 : decode cX0_readsNumber 19 = .ok (.invokevirtual 49, 3) := by decide +kernel
theorem dX0_readsNumber_22 : decode cX0_readsNumber 22 = .ok (.invokestatic 70, 3) := by decide +kernel
theorem dX0_readsNumber_25 : decode cX0_readsNumber 25 = .ok (.ifCond .eq 42, 3) := by decide +kernel
theorem dX0_readsNumber_28 : decode cX0_readsNumber 28 = .ok (.aload_n 0, 1) := by decide +kernel
theorem dX0_readsNumber_29 : decode cX0_readsNumber 29 = .ok (.bipush 10, 2) := by decide +kernel
theorem dX0_readsNumber_31 : decode cX0_readsNumber 31 = .ok (.aload_n 0, 1) := by decide +kernel
theorem dX0_readsNumber_32 : decode cX0_readsNumber 32 = .ok (.getfield 67, 3) := by decide +kernel
theorem dX0_readsNumber_35 : decode cX0_readsNumber 35 = .ok (.imul, 1) := by decide +kernel
theorem dX0_readsNumber_36 : decode cX0_readsNumber 36 = .ok (.aload_n 1, 1) := by decide +kernel
theorem dX0_readsNumber_37 : decode cX0_readsNumber 37 = .ok (.aload_n 0, 1) := by decide +kernel
theorem dX0_readsNumber_38 : decode cX0_readsNumber 38 = .ok (.getfield 28, 3) := by decide +kernel
theorem dX0_readsNumber_41 : decode cX0_readsNumber 41 = .ok (.invokevirtual 49, 3) := by decide +kernel
theorem dX0_readsNumber_44 : decode cX0_readsNumber 44 = .ok (.iadd, 1) := by decide +kernel
theorem dX0_readsNumber_45 : decode cX0_readsNumber 45 = .ok (.bipush 48, 2) := by decide +kernel
theorem dX0_readsNumber_47 : decode cX0_readsNumber 47 = .ok (.isub, 1) := by decide +kernel
theorem dX0_readsNumber_48 : decode cX0_readsNumber 48 = .ok (.putfield 67, 3) := by decide +kernel
theorem dX0_readsNumber_51 : decode cX0_readsNumber 51 = .ok (.aload_n 0, 1) := by decide +kernel
theorem dX0_readsNumber_52 : decode cX0_readsNumber 52 = .ok (.dup, 1) := by decide +kernel
theorem dX0_readsNumber_53 : decode cX0_readsNumber 53 = .ok (.getfield 28, 3) := by decide +kernel
theorem dX0_readsNumber_56 : decode cX0_readsNumber 56 = .ok (.iconst 1, 1) := by decide +kernel
theorem dX0_readsNumber_57 : decode cX0_readsNumber 57 = .ok (.iadd, 1) := by decide +kernel
theorem dX0_readsNumber_58 : decode cX0_readsNumber 58 = .ok (.putfield 28, 3) := by decide +kernel
theorem dX0_readsNumber_61 : decode cX0_readsNumber 61 = .ok (.iinc 5 1, 3) := by decide +kernel
theorem dX0_readsNumber_64 : decode cX0_readsNumber 64 = .ok (.goto (-56), 3) := by decide +kernel
theorem dX0_readsNumber_67 : decode cX0_readsNumber 67 = .ok (.iload 5, 2) := by decide +kernel
theorem dX0_readsNumber_69 : decode cX0_readsNumber 69 = .ok (.ifCond .eq 17, 3) := by decide +kernel
theorem dX0_readsNumber_72 : decode cX0_readsNumber 72 = .ok (.aload_n 1, 1) := by decide +kernel
theorem dX0_readsNumber_73 : decode cX0_readsNumber 73 = .ok (.aload_n 0, 1) := by decide +kernel
theorem dX0_readsNumber_74 : decode cX0_readsNumber 74 = .ok (.getfield 28, 3) := by decide +kernel
theorem dX0_readsNumber_77 : decode cX0_readsNumber 77 = .ok (.invokevirtual 49, 3) := by decide +kernel
theorem dX0_readsNumber_80 : decode cX0_readsNumber 80 = .ok (.invokestatic 70, 3) := by decide +kernel
theorem dX0_readsNumber_83 : decode cX0_readsNumber 83 = .ok (.ifCond .eq 12, 3) := by decide +kernel
theorem dX0_readsNumber_86 : decode cX0_readsNumber 86 = .ok (.aload_n 0, 1) := by decide +kernel
theorem dX0_readsNumber_87 : decode cX0_readsNumber 87 = .ok (.aload_n 0, 1) := by decide +kernel
theorem dX0_readsNumber_88 : decode cX0_readsNumber 88 = .ok (.getfield 28, 3) := by decide +kernel
theorem dX0_readsNumber_91 : decode cX0_readsNumber 91 = .ok (.invokevirtual 45, 3) := by decide +kernel
theorem dX0_readsNumber_94 : decode cX0_readsNumber 94 = .ok (.ireturn, 1) := by decide +kernel
theorem dX0_readsNumber_95 : decode cX0_readsNumber 95 = .ok (.aload_n 0, 1) := by decide +kernel
theorem dX0_readsNumber_96 : decode cX0_readsNumber 96 = .ok (.getfield 67, 3) := by decide +kernel
theorem dX0_readsNumber_99 : decode cX0_readsNumber 99 = .ok (.iload_n 3, 1) := by decide +kernel
theorem dX0_readsNumber_100 : decode cX0_readsNumber 100 = .ok (.iload 4, 2) := by decide +kernel
theorem dX0_readsNumber_102 : decode cX0_readsNumber 102 = .ok (.invokestatic 73, 3) := by decide +kernel
theorem dX0_readsNumber_105 : decode cX0_readsNumber 105 = .ok (.ifCond .ne 16, 3) := by decide +kernel
theorem dX0_readsNumber_108 : decode cX0_readsNumber 108 = .ok (.aload_n 0, 1) := by decide +kernel
theorem dX0_readsNumber_109 : decode cX0_readsNumber 109 = .ok (.aload_n 0, 1) := by decide +kernel
theorem dX0_readsNumber_110 : decode cX0_readsNumber 110 = .ok (.getfield 28, 3) := by decide +kernel
theorem dX0_readsNumber_113 : decode cX0_readsNumber 113 = .ok (.iconst 1, 1) := by decide +kernel
theorem dX0_readsNumber_114 : decode cX0_readsNumber 114 = .ok (.isub, 1) := by decide +kernel
theorem dX0_readsNumber_115 : decode cX0_readsNumber 115 = .ok (.invokevirtual 45, 3) := by decide +kernel
theorem dX0_readsNumber_118 : decode cX0_readsNumber 118 = .ok (.ifCond .eq 7, 3) := by decide +kernel
theorem dX0_readsNumber_121 : decode cX0_readsNumber 121 = .ok (.iconst 1, 1) := by decide +kernel
theorem dX0_readsNumber_122 : decode cX0_readsNumber 122 = .ok (.goto 4, 3) := by decide +kernel
theorem dX0_readsNumber_125 : decode cX0_readsNumber 125 = .ok (.iconst 0, 1) := by decide +kernel
theorem dX0_readsNumber_126 : decode cX0_readsNumber 126 = .ok (.ireturn, 1) := by decide +kernel
theorem dX0_readsSign_0 : decode cX0_readsSign 0 = .ok (.aload_n 1, 1) := by decide +kernel
theorem dX0_readsSign_1 : decode cX0_readsSign 1 = .ok (.aload_n 0, 1) := by decide +kernel
theorem dX0_readsSign_2 : decode cX0_readsSign 2 = .ok (.getfield 28, 3) := by decide +kernel
theorem dX0_readsSign_5 : decode cX0_readsSign 5 = .ok (.invokevirtual 49, 3) := by decide +kernel
theorem dX0_readsSign_8 : decode cX0_readsSign 8 = .ok (.iload_n 2, 1) := by decide +kernel
theorem dX0_readsSign_9 : decode cX0_readsSign 9 = .ok (.if_icmp .eq 12, 3) := by decide +kernel
theorem dX0_readsSign_12 : decode cX0_readsSign 12 = .ok (.aload_n 0, 1) := by decide +kernel
theorem dX0_readsSign_13 : decode cX0_readsSign 13 = .ok (.aload_n 0, 1) := by decide +kernel
theorem dX0_readsSign_14 : decode cX0_readsSign 14 = .ok (.getfield 28, 3) := by decide +kernel
theorem dX0_readsSign_17 : decode cX0_readsSign 17 = .ok (.invokevirtual 45, 3) := by decide +kernel
theorem dX0_readsSign_20 : decode cX0_readsSign 20 = .ok (.ireturn, 1) := by decide +kernel
theorem dX0_readsSign_21 : decode cX0_readsSign 21 = .ok (.aload_n 0, 1) := by decide +kernel
theorem dX0_readsSign_22 : decode cX0_readsSign 22 = .ok (.dup, 1) := by decide +kernel
theorem dX0_readsSign_23 : decode cX0_readsSign 23 = .ok (.getfield 28, 3) := by decide +kernel
theorem dX0_readsSign_26 : decode cX0_readsSign 26 = .ok (.iconst 1, 1) := by decide +kernel
theorem dX0_readsSign_27 : decode cX0_readsSign 27 = .ok (.iadd, 1) := by decide +kernel
theorem dX0_readsSign_28 : decode cX0_readsSign 28 = .ok (.putfield 28, 3) := by decide +kernel
theorem dX0_readsSign_31 : decode cX0_readsSign 31 = .ok (.iconst 1, 1) := by decide +kernel
theorem dX0_readsSign_32 : decode cX0_readsSign 32 = .ok (.ireturn, 1) := by decide +kernel
theorem dX0_isDigit_0 : decode cX0_isDigit 0 = .ok (.iload_n 0, 1) := by decide +kernel
theorem dX0_isDigit_1 : decode cX0_isDigit 1 = .ok (.bipush 48, 2) := by decide +kernel
theorem dX0_isDigit_3 : decode cX0_isDigit 3 = .ok (.bipush 57, 2) := by decide +kernel
theorem dX0_isDigit_5 : decode cX0_isDigit 5 = .ok (.invokestatic 73, 3) := by decide +kernel
theorem dX0_isDigit_8 : decode cX0_isDigit 8 = .ok (.ireturn, 1) := by decide +kernel
theorem dX0_fails_0 : decode cX0_fails 0 = .ok (.aload_n 0, 1) := by decide +kernel
theorem dX0_fails_1 : decode cX0_fails 1 = .ok (.iload_n 1, 1) := by decide +kernel
theorem dX0_fails_2 : decode cX0_fails 2 = .ok (.putfield 31, 3) := by decide +kernel
theorem dX0_fails_5 : decode cX0_fails 5 = .ok (.iconst 0, 1) := by decide +kernel
theorem dX0_fails_6 : decode cX0_fails 6 = .ok (.ireturn, 1) := by decide +kernel
theorem dX1_init_0 : decode cX1_init 0 = .ok (.aload_n 0, 1) := by decide +kernel
theorem dX1_init_1 : decode cX1_init 1 = .ok (.invokespecial 3, 3) := by decide +kernel
theorem dX1_init_4 : decode cX1_init 4 = .ok (.aload_n 0, 1) := by decide +kernel
theorem dX1_init_5 : decode cX1_init 5 = .ok (.bipush 16, 2) := by decide +kernel
theorem dX1_init_7 : decode cX1_init 7 = .ok (.anewarray 9, 3) := by decide +kernel
theorem dX1_init_10 : decode cX1_init 10 = .ok (.putfield 11, 3) := by decide +kernel
theorem dX1_init_13 : decode cX1_init 13 = .ok (.return_, 1) := by decide +kernel
theorem dX1_empty_0 : decode cX1_empty 0 = .ok (.aload_n 0, 1) := by decide +kernel
theorem dX1_empty_1 : decode cX1_empty 1 = .ok (.iconst 0, 1) := by decide +kernel
theorem dX1_empty_2 : decode cX1_empty 2 = .ok (.putfield 17, 3) := by decide +kernel
theorem dX1_empty_5 : decode cX1_empty 5 = .ok (.return_, 1) := by decide +kernel
theorem dX1_at_0 : decode cX1_at 0 = .ok (.iload_n 1, 1) := by decide +kernel
theorem dX1_at_1 : decode cX1_at 1 = .ok (.ifCond .lt 17, 3) := by decide +kernel
theorem dX1_at_4 : decode cX1_at 4 = .ok (.iload_n 1, 1) := by decide +kernel
theorem dX1_at_5 : decode cX1_at 5 = .ok (.aload_n 0, 1) := by decide +kernel
theorem dX1_at_6 : decode cX1_at 6 = .ok (.getfield 17, 3) := by decide +kernel
theorem dX1_at_9 : decode cX1_at 9 = .ok (.if_icmp .ge 9, 3) := by decide +kernel
theorem dX1_at_12 : decode cX1_at 12 = .ok (.iload_n 1, 1) := by decide +kernel
theorem dX1_at_13 : decode cX1_at 13 = .ok (.bipush 16, 2) := by decide +kernel
theorem dX1_at_15 : decode cX1_at 15 = .ok (.if_icmp .lt 7, 3) := by decide +kernel
theorem dX1_at_18 : decode cX1_at 18 = .ok (.aconst_null, 1) := by decide +kernel
theorem dX1_at_19 : decode cX1_at 19 = .ok (.goto 9, 3) := by decide +kernel
theorem dX1_at_22 : decode cX1_at 22 = .ok (.aload_n 0, 1) := by decide +kernel
theorem dX1_at_23 : decode cX1_at 23 = .ok (.getfield 11, 3) := by decide +kernel
theorem dX1_at_26 : decode cX1_at 26 = .ok (.iload_n 1, 1) := by decide +kernel
theorem dX1_at_27 : decode cX1_at 27 = .ok (.aaload, 1) := by decide +kernel
theorem dX1_at_28 : decode cX1_at 28 = .ok (.areturn, 1) := by decide +kernel
theorem dX1_join_0 : decode cX1_join 0 = .ok (.aload_n 0, 1) := by decide +kernel
theorem dX1_join_1 : decode cX1_join 1 = .ok (.getfield 17, 3) := by decide +kernel
theorem dX1_join_4 : decode cX1_join 4 = .ok (.ifCond .lt 12, 3) := by decide +kernel
theorem dX1_join_7 : decode cX1_join 7 = .ok (.aload_n 0, 1) := by decide +kernel
theorem dX1_join_8 : decode cX1_join 8 = .ok (.getfield 17, 3) := by decide +kernel
theorem dX1_join_11 : decode cX1_join 11 = .ok (.bipush 16, 2) := by decide +kernel
theorem dX1_join_13 : decode cX1_join 13 = .ok (.if_icmp .lt 4, 3) := by decide +kernel
theorem dX1_join_16 : decode cX1_join 16 = .ok (.return_, 1) := by decide +kernel
theorem dX1_join_17 : decode cX1_join 17 = .ok (.aload_n 0, 1) := by decide +kernel
theorem dX1_join_18 : decode cX1_join 18 = .ok (.getfield 17, 3) := by decide +kernel
theorem dX1_join_21 : decode cX1_join 21 = .ok (.istore 4, 2) := by decide +kernel
theorem dX1_join_23 : decode cX1_join 23 = .ok (.iload 4, 2) := by decide +kernel
theorem dX1_join_25 : decode cX1_join 25 = .ok (.ifCond .le 48, 3) := by decide +kernel
theorem dX1_join_28 : decode cX1_join 28 = .ok (.aload_n 0, 1) := by decide +kernel
theorem dX1_join_29 : decode cX1_join 29 = .ok (.getfield 11, 3) := by decide +kernel
theorem dX1_join_32 : decode cX1_join 32 = .ok (.iload 4, 2) := by decide +kernel
theorem dX1_join_34 : decode cX1_join 34 = .ok (.iconst 1, 1) := by decide +kernel
theorem dX1_join_35 : decode cX1_join 35 = .ok (.isub, 1) := by decide +kernel
theorem dX1_join_36 : decode cX1_join 36 = .ok (.aaload, 1) := by decide +kernel
theorem dX1_join_37 : decode cX1_join 37 = .ok (.astore 5, 2) := by decide +kernel
theorem dX1_join_39 : decode cX1_join 39 = .ok (.aload 5, 2) := by decide +kernel
theorem dX1_join_41 : decode cX1_join 41 = .ok (.ifnull 32, 3) := by decide +kernel
theorem dX1_join_44 : decode cX1_join 44 = .ok (.aload_n 1, 1) := by decide +kernel
theorem dX1_join_45 : decode cX1_join 45 = .ok (.aload 5, 2) := by decide +kernel
theorem dX1_join_47 : decode cX1_join 47 = .ok (.iload_n 2, 1) := by decide +kernel
theorem dX1_join_48 : decode cX1_join 48 = .ok (.iload_n 3, 1) := by decide +kernel
theorem dX1_join_49 : decode cX1_join 49 = .ok (.invokevirtual 21, 3) := by decide +kernel
theorem dX1_join_52 : decode cX1_join 52 = .ok (.ifCond .ne 6, 3) := by decide +kernel
theorem dX1_join_55 : decode cX1_join 55 = .ok (.goto 18, 3) := by decide +kernel
theorem dX1_join_58 : decode cX1_join 58 = .ok (.aload_n 0, 1) := by decide +kernel
theorem dX1_join_59 : decode cX1_join 59 = .ok (.getfield 11, 3) := by decide +kernel
theorem dX1_join_62 : decode cX1_join 62 = .ok (.iload 4, 2) := by decide +kernel
theorem dX1_join_64 : decode cX1_join 64 = .ok (.aload 5, 2) := by decide +kernel
theorem dX1_join_66 : decode cX1_join 66 = .ok (.aastore, 1) := by decide +kernel
theorem dX1_join_67 : decode cX1_join 67 = .ok (.iinc 4 (-1), 3) := by decide +kernel
theorem dX1_join_70 : decode cX1_join 70 = .ok (.goto (-47), 3) := by decide +kernel
theorem dX1_join_73 : decode cX1_join 73 = .ok (.aload_n 0, 1) := by decide +kernel
theorem dX1_join_74 : decode cX1_join 74 = .ok (.getfield 11, 3) := by decide +kernel
theorem dX1_join_77 : decode cX1_join 77 = .ok (.iload 4, 2) := by decide +kernel
theorem dX1_join_79 : decode cX1_join 79 = .ok (.aload_n 1, 1) := by decide +kernel
theorem dX1_join_80 : decode cX1_join 80 = .ok (.aastore, 1) := by decide +kernel
theorem dX1_join_81 : decode cX1_join 81 = .ok (.aload_n 0, 1) := by decide +kernel
theorem dX1_join_82 : decode cX1_join 82 = .ok (.dup, 1) := by decide +kernel
theorem dX1_join_83 : decode cX1_join 83 = .ok (.getfield 17, 3) := by decide +kernel
theorem dX1_join_86 : decode cX1_join 86 = .ok (.iconst 1, 1) := by decide +kernel
theorem dX1_join_87 : decode cX1_join 87 = .ok (.iadd, 1) := by decide +kernel
theorem dX1_join_88 : decode cX1_join 88 = .ok (.putfield 17, 3) := by decide +kernel
theorem dX1_join_91 : decode cX1_join 91 = .ok (.return_, 1) := by decide +kernel
theorem dX2_init_0 : decode cX2_init 0 = .ok (.aload_n 0, 1) := by decide +kernel
theorem dX2_init_1 : decode cX2_init 1 = .ok (.invokespecial 3, 3) := by decide +kernel
theorem dX2_init_4 : decode cX2_init 4 = .ok (.aload_n 0, 1) := by decide +kernel
theorem dX2_init_5 : decode cX2_init 5 = .ok (.bipush 40, 2) := by decide +kernel
theorem dX2_init_7 : decode cX2_init 7 = .ok (.newarray .int, 2) := by decide +kernel
theorem dX2_init_9 : decode cX2_init 9 = .ok (.putfield 9, 3) := by decide +kernel
theorem dX2_init_12 : decode cX2_init 12 = .ok (.aload_n 0, 1) := by decide +kernel
theorem dX2_init_13 : decode cX2_init 13 = .ok (.bipush 40, 2) := by decide +kernel
theorem dX2_init_15 : decode cX2_init 15 = .ok (.newarray .int, 2) := by decide +kernel
theorem dX2_init_17 : decode cX2_init 17 = .ok (.putfield 15, 3) := by decide +kernel
theorem dX2_init_20 : decode cX2_init 20 = .ok (.aload_n 0, 1) := by decide +kernel
theorem dX2_init_21 : decode cX2_init 21 = .ok (.bipush 40, 2) := by decide +kernel
theorem dX2_init_23 : decode cX2_init 23 = .ok (.newarray .int, 2) := by decide +kernel
theorem dX2_init_25 : decode cX2_init 25 = .ok (.putfield 18, 3) := by decide +kernel
theorem dX2_init_28 : decode cX2_init 28 = .ok (.aload_n 0, 1) := by decide +kernel
theorem dX2_init_29 : decode cX2_init 29 = .ok (.bipush 40, 2) := by decide +kernel
theorem dX2_init_31 : decode cX2_init 31 = .ok (.newarray .int, 2) := by decide +kernel
theorem dX2_init_33 : decode cX2_init 33 = .ok (.putfield 21, 3) := by decide +kernel
theorem dX2_init_36 : decode cX2_init 36 = .ok (.aload_n 0, 1) := by decide +kernel
theorem dX2_init_37 : decode cX2_init 37 = .ok (.bipush 40, 2) := by decide +kernel
theorem dX2_init_39 : decode cX2_init 39 = .ok (.newarray .int, 2) := by decide +kernel
theorem dX2_init_41 : decode cX2_init 41 = .ok (.putfield 24, 3) := by decide +kernel
theorem dX2_init_44 : decode cX2_init 44 = .ok (.return_, 1) := by decide +kernel
theorem dX2_keep_0 : decode cX2_keep 0 = .ok (.aload_n 0, 1) := by decide +kernel
theorem dX2_keep_1 : decode cX2_keep 1 = .ok (.getfield 27, 3) := by decide +kernel
theorem dX2_keep_4 : decode cX2_keep 4 = .ok (.ifCond .lt 12, 3) := by decide +kernel
theorem dX2_keep_7 : decode cX2_keep 7 = .ok (.aload_n 0, 1) := by decide +kernel
theorem dX2_keep_8 : decode cX2_keep 8 = .ok (.getfield 27, 3) := by decide +kernel
theorem dX2_keep_11 : decode cX2_keep 11 = .ok (.bipush 40, 2) := by decide +kernel
theorem dX2_keep_13 : decode cX2_keep 13 = .ok (.if_icmp .lt 8, 3) := by decide +kernel
theorem dX2_keep_16 : decode cX2_keep 16 = .ok (.aload_n 0, 1) := by decide +kernel
theorem dX2_keep_17 : decode cX2_keep 17 = .ok (.iconst 0, 1) := by decide +kernel
theorem dX2_keep_18 : decode cX2_keep 18 = .ok (.putfield 27, 3) := by decide +kernel
theorem dX2_keep_21 : decode cX2_keep 21 = .ok (.aload_n 0, 1) := by decide +kernel
theorem dX2_keep_22 : decode cX2_keep 22 = .ok (.getfield 9, 3) := by decide +kernel
theorem dX2_keep_25 : decode cX2_keep 25 = .ok (.aload_n 0, 1) := by decide +kernel
theorem dX2_keep_26 : decode cX2_keep 26 = .ok (.getfield 27, 3) := by decide +kernel
theorem dX2_keep_29 : decode cX2_keep 29 = .ok (.aload_n 1, 1) := by decide +kernel
theorem dX2_keep_30 : decode cX2_keep 30 = .ok (.getfield 31, 3) := by decide +kernel
theorem dX2_keep_33 : decode cX2_keep 33 = .ok (.iastore, 1) := by decide +kernel
theorem dX2_keep_34 : decode cX2_keep 34 = .ok (.aload_n 0, 1) := by decide +kernel
theorem dX2_keep_35 : decode cX2_keep 35 = .ok (.getfield 15, 3) := by decide +kernel
theorem dX2_keep_38 : decode cX2_keep 38 = .ok (.aload_n 0, 1) := by decide +kernel
theorem dX2_keep_39 : decode cX2_keep 39 = .ok (.getfield 27, 3) := by decide +kernel
theorem dX2_keep_42 : decode cX2_keep 42 = .ok (.iload_n 2, 1) := by decide +kernel
theorem dX2_keep_43 : decode cX2_keep 43 = .ok (.iastore, 1) := by decide +kernel
theorem dX2_keep_44 : decode cX2_keep 44 = .ok (.aload_n 0, 1) := by decide +kernel
theorem dX2_keep_45 : decode cX2_keep 45 = .ok (.getfield 18, 3) := by decide +kernel
theorem dX2_keep_48 : decode cX2_keep 48 = .ok (.aload_n 0, 1) := by decide +kernel
theorem dX2_keep_49 : decode cX2_keep 49 = .ok (.getfield 27, 3) := by decide +kernel
theorem dX2_keep_52 : decode cX2_keep 52 = .ok (.aload_n 1, 1) := by decide +kernel
theorem dX2_keep_53 : decode cX2_keep 53 = .ok (.getfield 36, 3) := by decide +kernel
theorem dX2_keep_56 : decode cX2_keep 56 = .ok (.iastore, 1) := by decide +kernel
theorem dX2_keep_57 : decode cX2_keep 57 = .ok (.aload_n 0, 1) := by decide +kernel
theorem dX2_keep_58 : decode cX2_keep 58 = .ok (.getfield 21, 3) := by decide +kernel
theorem dX2_keep_61 : decode cX2_keep 61 = .ok (.aload_n 0, 1) := by decide +kernel
theorem dX2_keep_62 : decode cX2_keep 62 = .ok (.getfield 27, 3) := by decide +kernel
theorem dX2_keep_65 : decode cX2_keep 65 = .ok (.aload_n 1, 1) := by decide +kernel
theorem dX2_keep_66 : decode cX2_keep 66 = .ok (.getfield 39, 3) := by decide +kernel
theorem dX2_keep_69 : decode cX2_keep 69 = .ok (.iastore, 1) := by decide +kernel
theorem dX2_keep_70 : decode cX2_keep 70 = .ok (.aload_n 0, 1) := by decide +kernel
theorem dX2_keep_71 : decode cX2_keep 71 = .ok (.getfield 24, 3) := by decide +kernel
theorem dX2_keep_74 : decode cX2_keep 74 = .ok (.aload_n 0, 1) := by decide +kernel
theorem dX2_keep_75 : decode cX2_keep 75 = .ok (.getfield 27, 3) := by decide +kernel
theorem dX2_keep_78 : decode cX2_keep 78 = .ok (.aload_n 1, 1) := by decide +kernel
theorem dX2_keep_79 : decode cX2_keep 79 = .ok (.getfield 42, 3) := by decide +kernel
theorem dX2_keep_82 : decode cX2_keep 82 = .ok (.iastore, 1) := by decide +kernel
theorem dX2_keep_83 : decode cX2_keep 83 = .ok (.aload_n 0, 1) := by decide +kernel
theorem dX2_keep_84 : decode cX2_keep 84 = .ok (.dup, 1) := by decide +kernel
theorem dX2_keep_85 : decode cX2_keep 85 = .ok (.getfield 27, 3) := by decide +kernel
theorem dX2_keep_88 : decode cX2_keep 88 = .ok (.iconst 1, 1) := by decide +kernel
theorem dX2_keep_89 : decode cX2_keep 89 = .ok (.iadd, 1) := by decide +kernel
theorem dX2_keep_90 : decode cX2_keep 90 = .ok (.putfield 27, 3) := by decide +kernel
theorem dX2_keep_93 : decode cX2_keep 93 = .ok (.aload_n 0, 1) := by decide +kernel
theorem dX2_keep_94 : decode cX2_keep 94 = .ok (.aload_n 0, 1) := by decide +kernel
theorem dX2_keep_95 : decode cX2_keep 95 = .ok (.getfield 45, 3) := by decide +kernel
theorem dX2_keep_98 : decode cX2_keep 98 = .ok (.iconst 1, 1) := by decide +kernel
theorem dX2_keep_99 : decode cX2_keep 99 = .ok (.iadd, 1) := by decide +kernel
theorem dX2_keep_100 : decode cX2_keep 100 = .ok (.bipush 40, 2) := by decide +kernel
theorem dX2_keep_102 : decode cX2_keep 102 = .ok (.invokestatic 48, 3) := by decide +kernel
theorem dX2_keep_105 : decode cX2_keep 105 = .ok (.putfield 45, 3) := by decide +kernel
theorem dX2_keep_108 : decode cX2_keep 108 = .ok (.aload_n 0, 1) := by decide +kernel
theorem dX2_keep_109 : decode cX2_keep 109 = .ok (.dup, 1) := by decide +kernel
theorem dX2_keep_110 : decode cX2_keep 110 = .ok (.getfield 54, 3) := by decide +kernel
theorem dX2_keep_113 : decode cX2_keep 113 = .ok (.iconst 1, 1) := by decide +kernel
theorem dX2_keep_114 : decode cX2_keep 114 = .ok (.iadd, 1) := by decide +kernel
theorem dX2_keep_115 : decode cX2_keep 115 = .ok (.putfield 54, 3) := by decide +kernel
theorem dX2_keep_118 : decode cX2_keep 118 = .ok (.return_, 1) := by decide +kernel
theorem dX2_placeOf_0 : decode cX2_placeOf 0 = .ok (.iload_n 1, 1) := by decide +kernel
theorem dX2_placeOf_1 : decode cX2_placeOf 1 = .ok (.iconst 0, 1) := by decide +kernel
theorem dX2_placeOf_2 : decode cX2_placeOf 2 = .ok (.aload_n 0, 1) := by decide +kernel
theorem dX2_placeOf_3 : decode cX2_placeOf 3 = .ok (.getfield 45, 3) := by decide +kernel
theorem dX2_placeOf_6 : decode cX2_placeOf 6 = .ok (.iconst 1, 1) := by decide +kernel
theorem dX2_placeOf_7 : decode cX2_placeOf 7 = .ok (.isub, 1) := by decide +kernel
theorem dX2_placeOf_8 : decode cX2_placeOf 8 = .ok (.invokestatic 57, 3) := by decide +kernel
theorem dX2_placeOf_11 : decode cX2_placeOf 11 = .ok (.ifCond .ne 5, 3) := by decide +kernel
theorem dX2_placeOf_14 : decode cX2_placeOf 14 = .ok (.iconst (-1), 1) := by decide +kernel
theorem dX2_placeOf_15 : decode cX2_placeOf 15 = .ok (.ireturn, 1) := by decide +kernel
theorem dX2_placeOf_16 : decode cX2_placeOf 16 = .ok (.aload_n 0, 1) := by decide +kernel
theorem dX2_placeOf_17 : decode cX2_placeOf 17 = .ok (.getfield 27, 3) := by decide +kernel
theorem dX2_placeOf_20 : decode cX2_placeOf 20 = .ok (.aload_n 0, 1) := by decide +kernel
theorem dX2_placeOf_21 : decode cX2_placeOf 21 = .ok (.getfield 45, 3) := by decide +kernel
theorem dX2_placeOf_24 : decode cX2_placeOf 24 = .ok (.isub, 1) := by decide +kernel
theorem dX2_placeOf_25 : decode cX2_placeOf 25 = .ok (.iload_n 1, 1) := by decide +kernel
theorem dX2_placeOf_26 : decode cX2_placeOf 26 = .ok (.iadd, 1) := by decide +kernel
theorem dX2_placeOf_27 : decode cX2_placeOf 27 = .ok (.bipush 40, 2) := by decide +kernel
theorem dX2_placeOf_29 : decode cX2_placeOf 29 = .ok (.invokestatic 61, 3) := by decide +kernel
theorem dX2_placeOf_32 : decode cX2_placeOf 32 = .ok (.ireturn, 1) := by decide +kernel
theorem dX3_init_0 : decode cX3_init 0 = .ok (.aload_n 0, 1) := by decide +kernel
theorem dX3_init_1 : decode cX3_init 1 = .ok (.invokespecial 3, 3) := by decide +kernel
theorem dX3_init_4 : decode cX3_init 4 = .ok (.aload_n 0, 1) := by decide +kernel
theorem dX3_init_5 : decode cX3_init 5 = .ok (.bipush 40, 2) := by decide +kernel
theorem dX3_init_7 : decode cX3_init 7 = .ok (.newarray .long, 2) := by decide +kernel
theorem dX3_init_9 : decode cX3_init 9 = .ok (.putfield 9, 3) := by decide +kernel
theorem dX3_init_12 : decode cX3_init 12 = .ok (.return_, 1) := by decide +kernel
theorem dX3_empty_0 : decode cX3_empty 0 = .ok (.aload_n 0, 1) := by decide +kernel
theorem dX3_empty_1 : decode cX3_empty 1 = .ok (.iconst 0, 1) := by decide +kernel
theorem dX3_empty_2 : decode cX3_empty 2 = .ok (.putfield 15, 3) := by decide +kernel
theorem dX3_empty_5 : decode cX3_empty 5 = .ok (.return_, 1) := by decide +kernel
theorem dX3_put_0 : decode cX3_put 0 = .ok (.aload_n 0, 1) := by decide +kernel
theorem dX3_put_1 : decode cX3_put 1 = .ok (.getfield 15, 3) := by decide +kernel
theorem dX3_put_4 : decode cX3_put 4 = .ok (.ifCond .lt 35, 3) := by decide +kernel
theorem dX3_put_7 : decode cX3_put 7 = .ok (.aload_n 0, 1) := by decide +kernel
theorem dX3_put_8 : decode cX3_put 8 = .ok (.getfield 15, 3) := by decide +kernel
theorem dX3_put_11 : decode cX3_put 11 = .ok (.aload_n 0, 1) := by decide +kernel
theorem dX3_put_12 : decode cX3_put 12 = .ok (.getfield 9, 3) := by decide +kernel
theorem dX3_put_15 : decode cX3_put 15 = .ok (.arraylength, 1) := by decide +kernel
theorem dX3_put_16 : decode cX3_put 16 = .ok (.if_icmp .ge 23, 3) := by decide +kernel
theorem dX3_put_19 : decode cX3_put 19 = .ok (.aload_n 0, 1) := by decide +kernel
theorem dX3_put_20 : decode cX3_put 20 = .ok (.getfield 9, 3) := by decide +kernel
theorem dX3_put_23 : decode cX3_put 23 = .ok (.aload_n 0, 1) := by decide +kernel
theorem dX3_put_24 : decode cX3_put 24 = .ok (.getfield 15, 3) := by decide +kernel
theorem dX3_put_27 : decode cX3_put 27 = .ok (.lload_n 1, 1) := by decide +kernel
theorem dX3_put_28 : decode cX3_put 28 = .ok (.lastore, 1) := by decide +kernel
theorem dX3_put_29 : decode cX3_put 29 = .ok (.aload_n 0, 1) := by decide +kernel
theorem dX3_put_30 : decode cX3_put 30 = .ok (.dup, 1) := by decide +kernel
theorem dX3_put_31 : decode cX3_put 31 = .ok (.getfield 15, 3) := by decide +kernel
theorem dX3_put_34 : decode cX3_put 34 = .ok (.iconst 1, 1) := by decide +kernel
theorem dX3_put_35 : decode cX3_put 35 = .ok (.iadd, 1) := by decide +kernel
theorem dX3_put_36 : decode cX3_put 36 = .ok (.putfield 15, 3) := by decide +kernel
theorem dX3_put_39 : decode cX3_put 39 = .ok (.return_, 1) := by decide +kernel
theorem dX4_init_0 : decode cX4_init 0 = .ok (.aload_n 0, 1) := by decide +kernel
theorem dX4_init_1 : decode cX4_init 1 = .ok (.invokespecial 3, 3) := by decide +kernel
theorem dX4_init_4 : decode cX4_init 4 = .ok (.aload_n 0, 1) := by decide +kernel
theorem dX4_init_5 : decode cX4_init 5 = .ok (.iconst 4, 1) := by decide +kernel
theorem dX4_init_6 : decode cX4_init 6 = .ok (.newarray .int, 2) := by decide +kernel
theorem dX4_init_8 : decode cX4_init 8 = .ok (.putfield 9, 3) := by decide +kernel
theorem dX4_init_11 : decode cX4_init 11 = .ok (.aload_n 0, 1) := by decide +kernel
theorem dX4_init_12 : decode cX4_init 12 = .ok (.iconst 4, 1) := by decide +kernel
theorem dX4_init_13 : decode cX4_init 13 = .ok (.newarray .int, 2) := by decide +kernel
theorem dX4_init_15 : decode cX4_init 15 = .ok (.putfield 15, 3) := by decide +kernel
theorem dX4_init_18 : decode cX4_init 18 = .ok (.return_, 1) := by decide +kernel
theorem dX4_isPossible_0 : decode cX4_isPossible 0 = .ok (.iload_n 0, 1) := by decide +kernel
theorem dX4_isPossible_1 : decode cX4_isPossible 1 = .ok (.invokestatic 18, 3) := by decide +kernel
theorem dX4_isPossible_4 : decode cX4_isPossible 4 = .ok (.ifCond .eq 28, 3) := by decide +kernel
theorem dX4_isPossible_7 : decode cX4_isPossible 7 = .ok (.iload_n 1, 1) := by decide +kernel
theorem dX4_isPossible_8 : decode cX4_isPossible 8 = .ok (.invokestatic 22, 3) := by decide +kernel
theorem dX4_isPossible_11 : decode cX4_isPossible 11 = .ok (.ifCond .eq 21, 3) := by decide +kernel
theorem dX4_isPossible_14 : decode cX4_isPossible 14 = .ok (.iload_n 2, 1) := by decide +kernel
theorem dX4_isPossible_15 : decode cX4_isPossible 15 = .ok (.invokestatic 22, 3) := by decide +kernel
theorem dX4_isPossible_18 : decode cX4_isPossible 18 = .ok (.ifCond .eq 14, 3) := by decide +kernel
theorem dX4_isPossible_21 : decode cX4_isPossible 21 = .ok (.iload_n 3, 1) := by decide +kernel
theorem dX4_isPossible_22 : decode cX4_isPossible 22 = .ok (.invokestatic 22, 3) := by decide +kernel
theorem dX4_isPossible_25 : decode cX4_isPossible 25 = .ok (.ifCond .eq 7, 3) := by decide +kernel
theorem dX4_isPossible_28 : decode cX4_isPossible 28 = .ok (.iconst 1, 1) := by decide +kernel
theorem dX4_isPossible_29 : decode cX4_isPossible 29 = .ok (.goto 4, 3) := by decide +kernel
theorem dX4_isPossible_32 : decode cX4_isPossible 32 = .ok (.iconst 0, 1) := by decide +kernel
theorem dX4_isPossible_33 : decode cX4_isPossible 33 = .ok (.istore 4, 2) := by decide +kernel
theorem dX4_isPossible_35 : decode cX4_isPossible 35 = .ok (.iload_n 1, 1) := by decide +kernel
theorem dX4_isPossible_36 : decode cX4_isPossible 36 = .ok (.ifCond .ne 7, 3) := by decide +kernel
theorem dX4_isPossible_39 : decode cX4_isPossible 39 = .ok (.iload_n 2, 1) := by decide +kernel
theorem dX4_isPossible_40 : decode cX4_isPossible 40 = .ok (.ifCond .ne 15, 3) := by decide +kernel
theorem dX4_isPossible_43 : decode cX4_isPossible 43 = .ok (.iload_n 2, 1) := by decide +kernel
theorem dX4_isPossible_44 : decode cX4_isPossible 44 = .ok (.ifCond .ne 7, 3) := by decide +kernel
theorem dX4_isPossible_47 : decode cX4_isPossible 47 = .ok (.iload_n 3, 1) := by decide +kernel
theorem dX4_isPossible_48 : decode cX4_isPossible 48 = .ok (.ifCond .ne 7, 3) := by decide +kernel
theorem dX4_isPossible_51 : decode cX4_isPossible 51 = .ok (.iconst 1, 1) := by decide +kernel
theorem dX4_isPossible_52 : decode cX4_isPossible 52 = .ok (.goto 4, 3) := by decide +kernel
theorem dX4_isPossible_55 : decode cX4_isPossible 55 = .ok (.iconst 0, 1) := by decide +kernel
theorem dX4_isPossible_56 : decode cX4_isPossible 56 = .ok (.istore 5, 2) := by decide +kernel
theorem dX4_isPossible_58 : decode cX4_isPossible 58 = .ok (.iload 4, 2) := by decide +kernel
theorem dX4_isPossible_60 : decode cX4_isPossible 60 = .ok (.ifCond .eq 12, 3) := by decide +kernel
theorem dX4_isPossible_63 : decode cX4_isPossible 63 = .ok (.iload 5, 2) := by decide +kernel
theorem dX4_isPossible_65 : decode cX4_isPossible 65 = .ok (.ifCond .eq 7, 3) := by decide +kernel
theorem dX4_isPossible_68 : decode cX4_isPossible 68 = .ok (.iconst 1, 1) := by decide +kernel
theorem dX4_isPossible_69 : decode cX4_isPossible 69 = .ok (.goto 4, 3) := by decide +kernel
theorem dX4_isPossible_72 : decode cX4_isPossible 72 = .ok (.iconst 0, 1) := by decide +kernel
theorem dX4_isPossible_73 : decode cX4_isPossible 73 = .ok (.ireturn, 1) := by decide +kernel
theorem dX4_isSize_0 : decode cX4_isSize 0 = .ok (.iload_n 0, 1) := by decide +kernel
theorem dX4_isSize_1 : decode cX4_isSize 1 = .ok (.iconst 2, 1) := by decide +kernel
theorem dX4_isSize_2 : decode cX4_isSize 2 = .ok (.bipush 16, 2) := by decide +kernel
theorem dX4_isSize_4 : decode cX4_isSize 4 = .ok (.invokestatic 25, 3) := by decide +kernel
theorem dX4_isSize_7 : decode cX4_isSize 7 = .ok (.ireturn, 1) := by decide +kernel
theorem dX4_isSizeOrNone_0 : decode cX4_isSizeOrNone 0 = .ok (.iload_n 0, 1) := by decide +kernel
theorem dX4_isSizeOrNone_1 : decode cX4_isSizeOrNone 1 = .ok (.ifCond .eq 10, 3) := by decide +kernel
theorem dX4_isSizeOrNone_4 : decode cX4_isSizeOrNone 4 = .ok (.iload_n 0, 1) := by decide +kernel
theorem dX4_isSizeOrNone_5 : decode cX4_isSizeOrNone 5 = .ok (.invokestatic 18, 3) := by decide +kernel
theorem dX4_isSizeOrNone_8 : decode cX4_isSizeOrNone 8 = .ok (.ifCond .eq 7, 3) := by decide +kernel
theorem dX4_isSizeOrNone_11 : decode cX4_isSizeOrNone 11 = .ok (.iconst 1, 1) := by decide +kernel
theorem dX4_isSizeOrNone_12 : decode cX4_isSizeOrNone 12 = .ok (.goto 4, 3) := by decide +kernel
theorem dX4_isSizeOrNone_15 : decode cX4_isSizeOrNone 15 = .ok (.iconst 0, 1) := by decide +kernel
theorem dX4_isSizeOrNone_16 : decode cX4_isSizeOrNone 16 = .ok (.ireturn, 1) := by decide +kernel
theorem dX4_isOf_0 : decode cX4_isOf 0 = .ok (.aload_n 0, 1) := by decide +kernel
theorem dX4_isOf_1 : decode cX4_isOf 1 = .ok (.iconst 0, 1) := by decide +kernel
theorem dX4_isOf_2 : decode cX4_isOf 2 = .ok (.invokevirtual 29, 3) := by decide +kernel
theorem dX4_isOf_5 : decode cX4_isOf 5 = .ok (.iload_n 1, 1) := by decide +kernel
theorem dX4_isOf_6 : decode cX4_isOf 6 = .ok (.if_icmp .ne 35, 3) := by decide +kernel
theorem dX4_isOf_9 : decode cX4_isOf 9 = .ok (.aload_n 0, 1) := by decide +kernel
theorem dX4_isOf_10 : decode cX4_isOf 10 = .ok (.iconst 1, 1) := by decide +kernel
theorem dX4_isOf_11 : decode cX4_isOf 11 = .ok (.invokevirtual 29, 3) := by decide +kernel
theorem dX4_isOf_14 : decode cX4_isOf 14 = .ok (.iload_n 2, 1) := by decide +kernel
theorem dX4_isOf_15 : decode cX4_isOf 15 = .ok (.if_icmp .ne 26, 3) := by decide +kernel
theorem dX4_isOf_18 : decode cX4_isOf 18 = .ok (.aload_n 0, 1) := by decide +kernel
theorem dX4_isOf_19 : decode cX4_isOf 19 = .ok (.iconst 2, 1) := by decide +kernel
theorem dX4_isOf_20 : decode cX4_isOf 20 = .ok (.invokevirtual 29, 3) := by decide +kernel
theorem dX4_isOf_23 : decode cX4_isOf 23 = .ok (.iload_n 3, 1) := by decide +kernel
theorem dX4_isOf_24 : decode cX4_isOf 24 = .ok (.if_icmp .ne 17, 3) := by decide +kernel
theorem dX4_isOf_27 : decode cX4_isOf 27 = .ok (.aload_n 0, 1) := by decide +kernel
theorem dX4_isOf_28 : decode cX4_isOf 28 = .ok (.iconst 3, 1) := by decide +kernel
theorem dX4_isOf_29 : decode cX4_isOf 29 = .ok (.invokevirtual 29, 3) := by decide +kernel
theorem dX4_isOf_32 : decode cX4_isOf 32 = .ok (.iload 4, 2) := by decide +kernel
theorem dX4_isOf_34 : decode cX4_isOf 34 = .ok (.if_icmp .ne 7, 3) := by decide +kernel
theorem dX4_isOf_37 : decode cX4_isOf 37 = .ok (.iconst 1, 1) := by decide +kernel
theorem dX4_isOf_38 : decode cX4_isOf 38 = .ok (.goto 4, 3) := by decide +kernel
theorem dX4_isOf_41 : decode cX4_isOf 41 = .ok (.iconst 0, 1) := by decide +kernel
theorem dX4_isOf_42 : decode cX4_isOf 42 = .ok (.ireturn, 1) := by decide +kernel
theorem dX4_become_0 : decode cX4_become 0 = .ok (.aload_n 0, 1) := by decide +kernel
theorem dX4_become_1 : decode cX4_become 1 = .ok (.iconst 0, 1) := by decide +kernel
theorem dX4_become_2 : decode cX4_become 2 = .ok (.putfield 33, 3) := by decide +kernel
theorem dX4_become_5 : decode cX4_become 5 = .ok (.aload_n 0, 1) := by decide +kernel
theorem dX4_become_6 : decode cX4_become 6 = .ok (.iconst 1, 1) := by decide +kernel
theorem dX4_become_7 : decode cX4_become 7 = .ok (.putfield 37, 3) := by decide +kernel
theorem dX4_become_10 : decode cX4_become 10 = .ok (.iconst 0, 1) := by decide +kernel
theorem dX4_become_11 : decode cX4_become 11 = .ok (.istore 5, 2) := by decide +kernel
theorem dX4_become_13 : decode cX4_become 13 = .ok (.iload 5, 2) := by decide +kernel
theorem dX4_become_15 : decode cX4_become 15 = .ok (.iconst 4, 1) := by decide +kernel
theorem dX4_become_16 : decode cX4_become 16 = .ok (.if_icmp .ge 88, 3) := by decide +kernel
theorem dX4_become_19 : decode cX4_become 19 = .ok (.iload 5, 2) := by decide +kernel
theorem dX4_become_21 : decode cX4_become 21 = .ok (.ifCond .ne 7, 3) := by decide +kernel
theorem dX4_become_24 : decode cX4_become 24 = .ok (.iload_n 1, 1) := by decide +kernel
theorem dX4_become_25 : decode cX4_become 25 = .ok (.goto 25, 3) := by decide +kernel
theorem dX4_become_28 : decode cX4_become 28 = .ok (.iload 5, 2) := by decide +kernel
theorem dX4_become_30 : decode cX4_become 30 = .ok (.iconst 1, 1) := by decide +kernel
theorem dX4_become_31 : decode cX4_become 31 = .ok (.if_icmp .ne 7, 3) := by decide +kernel
theorem dX4_become_34 : decode cX4_become 34 = .ok (.iload_n 2, 1) := by decide +kernel
theorem dX4_become_35 : decode cX4_become 35 = .ok (.goto 15, 3) := by decide +kernel
theorem dX4_become_38 : decode cX4_become 38 = .ok (.iload 5, 2) := by decide +kernel
theorem dX4_become_40 : decode cX4_become 40 = .ok (.iconst 2, 1) := by decide +kernel
theorem dX4_become_41 : decode cX4_become 41 = .ok (.if_icmp .ne 7, 3) := by decide +kernel
theorem dX4_become_44 : decode cX4_become 44 = .ok (.iload_n 3, 1) := by decide +kernel
theorem dX4_become_45 : decode cX4_become 45 = .ok (.goto 5, 3) := by decide +kernel
theorem dX4_become_48 : decode cX4_become 48 = .ok (.iload 4, 2) := by decide +kernel
theorem dX4_become_50 : decode cX4_become 50 = .ok (.istore 6, 2) := by decide +kernel
theorem dX4_become_52 : decode cX4_become 52 = .ok (.aload_n 0, 1) := by decide +kernel
theorem dX4_become_53 : decode cX4_become 53 = .ok (.getfield 9, 3) := by decide +kernel
theorem dX4_become_56 : decode cX4_become 56 = .ok (.iload 5, 2) := by decide +kernel
theorem dX4_become_58 : decode cX4_become 58 = .ok (.iload 6, 2) := by decide +kernel
theorem dX4_become_60 : decode cX4_become 60 = .ok (.iastore, 1) := by decide +kernel
theorem dX4_become_61 : decode cX4_become 61 = .ok (.aload_n 0, 1) := by decide +kernel
theorem dX4_become_62 : decode cX4_become 62 = .ok (.getfield 15, 3) := by decide +kernel
theorem dX4_become_65 : decode cX4_become 65 = .ok (.iload 5, 2) := by decide +kernel
theorem dX4_become_67 : decode cX4_become 67 = .ok (.aload_n 0, 1) := by decide +kernel
theorem dX4_become_68 : decode cX4_become 68 = .ok (.getfield 37, 3) := by decide +kernel
theorem dX4_become_71 : decode cX4_become 71 = .ok (.iastore, 1) := by decide +kernel
theorem dX4_become_72 : decode cX4_become 72 = .ok (.iload 6, 2) := by decide +kernel
theorem dX4_become_74 : decode cX4_become 74 = .ok (.ifCond .le 24, 3) := by decide +kernel
theorem dX4_become_77 : decode cX4_become 77 = .ok (.aload_n 0, 1) := by decide +kernel
theorem dX4_become_78 : decode cX4_become 78 = .ok (.dup, 1) := by decide +kernel
theorem dX4_become_79 : decode cX4_become 79 = .ok (.getfield 33, 3) := by decide +kernel
theorem dX4_become_82 : decode cX4_become 82 = .ok (.iconst 1, 1) := by decide +kernel
theorem dX4_become_83 : decode cX4_become 83 = .ok (.iadd, 1) := by decide +kernel
theorem dX4_become_84 : decode cX4_become 84 = .ok (.putfield 33, 3) := by decide +kernel
theorem dX4_become_87 : decode cX4_become 87 = .ok (.aload_n 0, 1) := by decide +kernel
theorem dX4_become_88 : decode cX4_become 88 = .ok (.dup, 1) := by decide +kernel
theorem dX4_become_89 : decode cX4_become 89 = .ok (.getfield 37, 3) := by decide +kernel
theorem dX4_become_92 : decode cX4_become 92 = .ok (.iload 6, 2) := by decide +kernel
theorem dX4_become_94 : decode cX4_become 94 = .ok (.imul, 1) := by decide +kernel
theorem dX4_become_95 : decode cX4_become 95 = .ok (.putfield 37, 3) := by decide +kernel
theorem dX4_become_98 : decode cX4_become 98 = .ok (.iinc 5 1, 3) := by decide +kernel
theorem dX4_become_101 : decode cX4_become 101 = .ok (.goto (-88), 3) := by decide +kernel
theorem dX4_become_104 : decode cX4_become 104 = .ok (.return_, 1) := by decide +kernel
theorem dX4_copy_0 : decode cX4_copy 0 = .ok (.aload_n 0, 1) := by decide +kernel
theorem dX4_copy_1 : decode cX4_copy 1 = .ok (.aload_n 1, 1) := by decide +kernel
theorem dX4_copy_2 : decode cX4_copy 2 = .ok (.iconst 0, 1) := by decide +kernel
theorem dX4_copy_3 : decode cX4_copy 3 = .ok (.invokevirtual 29, 3) := by decide +kernel
theorem dX4_copy_6 : decode cX4_copy 6 = .ok (.aload_n 1, 1) := by decide +kernel
theorem dX4_copy_7 : decode cX4_copy 7 = .ok (.iconst 1, 1) := by decide +kernel
theorem dX4_copy_8 : decode cX4_copy 8 = .ok (.invokevirtual 29, 3) := by decide +kernel
theorem dX4_copy_11 : decode cX4_copy 11 = .ok (.aload_n 1, 1) := by decide +kernel
theorem dX4_copy_12 : decode cX4_copy 12 = .ok (.iconst 2, 1) := by decide +kernel
theorem dX4_copy_13 : decode cX4_copy 13 = .ok (.invokevirtual 29, 3) := by decide +kernel
theorem dX4_copy_16 : decode cX4_copy 16 = .ok (.aload_n 1, 1) := by decide +kernel
theorem dX4_copy_17 : decode cX4_copy 17 = .ok (.iconst 3, 1) := by decide +kernel
theorem dX4_copy_18 : decode cX4_copy 18 = .ok (.invokevirtual 29, 3) := by decide +kernel
theorem dX4_copy_21 : decode cX4_copy 21 = .ok (.invokevirtual 40, 3) := by decide +kernel
theorem dX4_copy_24 : decode cX4_copy 24 = .ok (.return_, 1) := by decide +kernel
theorem dX4_hasLevel_0 : decode cX4_hasLevel 0 = .ok (.iload_n 1, 1) := by decide +kernel
theorem dX4_hasLevel_1 : decode cX4_hasLevel 1 = .ok (.iconst 0, 1) := by decide +kernel
theorem dX4_hasLevel_2 : decode cX4_hasLevel 2 = .ok (.aload_n 0, 1) := by decide +kernel
theorem dX4_hasLevel_3 : decode cX4_hasLevel 3 = .ok (.getfield 33, 3) := by decide +kernel
theorem dX4_hasLevel_6 : decode cX4_hasLevel 6 = .ok (.iconst 1, 1) := by decide +kernel
theorem dX4_hasLevel_7 : decode cX4_hasLevel 7 = .ok (.isub, 1) := by decide +kernel
theorem dX4_hasLevel_8 : decode cX4_hasLevel 8 = .ok (.invokestatic 25, 3) := by decide +kernel
theorem dX4_hasLevel_11 : decode cX4_hasLevel 11 = .ok (.ireturn, 1) := by decide +kernel
theorem dX4_sizeOf_0 : decode cX4_sizeOf 0 = .ok (.iload_n 1, 1) := by decide +kernel
theorem dX4_sizeOf_1 : decode cX4_sizeOf 1 = .ok (.ifCond .lt 8, 3) := by decide +kernel
theorem dX4_sizeOf_4 : decode cX4_sizeOf 4 = .ok (.iload_n 1, 1) := by decide +kernel
theorem dX4_sizeOf_5 : decode cX4_sizeOf 5 = .ok (.iconst 4, 1) := by decide +kernel
theorem dX4_sizeOf_6 : decode cX4_sizeOf 6 = .ok (.if_icmp .lt 7, 3) := by decide +kernel
theorem dX4_sizeOf_9 : decode cX4_sizeOf 9 = .ok (.iconst 0, 1) := by decide +kernel
theorem dX4_sizeOf_10 : decode cX4_sizeOf 10 = .ok (.goto 9, 3) := by decide +kernel
theorem dX4_sizeOf_13 : decode cX4_sizeOf 13 = .ok (.aload_n 0, 1) := by decide +kernel
theorem dX4_sizeOf_14 : decode cX4_sizeOf 14 = .ok (.getfield 9, 3) := by decide +kernel
theorem dX4_sizeOf_17 : decode cX4_sizeOf 17 = .ok (.iload_n 1, 1) := by decide +kernel
theorem dX4_sizeOf_18 : decode cX4_sizeOf 18 = .ok (.iaload, 1) := by decide +kernel
theorem dX4_sizeOf_19 : decode cX4_sizeOf 19 = .ok (.ireturn, 1) := by decide +kernel
theorem dX4_spanOf_0 : decode cX4_spanOf 0 = .ok (.iload_n 1, 1) := by decide +kernel
theorem dX4_spanOf_1 : decode cX4_spanOf 1 = .ok (.ifCond .lt 8, 3) := by decide +kernel
theorem dX4_spanOf_4 : decode cX4_spanOf 4 = .ok (.iload_n 1, 1) := by decide +kernel
theorem dX4_spanOf_5 : decode cX4_spanOf 5 = .ok (.iconst 4, 1) := by decide +kernel
theorem dX4_spanOf_6 : decode cX4_spanOf 6 = .ok (.if_icmp .lt 10, 3) := by decide +kernel
theorem dX4_spanOf_9 : decode cX4_spanOf 9 = .ok (.aload_n 0, 1) := by decide +kernel
theorem dX4_spanOf_10 : decode cX4_spanOf 10 = .ok (.getfield 37, 3) := by decide +kernel
theorem dX4_spanOf_13 : decode cX4_spanOf 13 = .ok (.goto 9, 3) := by decide +kernel
theorem dX4_spanOf_16 : decode cX4_spanOf 16 = .ok (.aload_n 0, 1) := by decide +kernel
theorem dX4_spanOf_17 : decode cX4_spanOf 17 = .ok (.getfield 15, 3) := by decide +kernel
theorem dX4_spanOf_20 : decode cX4_spanOf 20 = .ok (.iload_n 1, 1) := by decide +kernel
theorem dX4_spanOf_21 : decode cX4_spanOf 21 = .ok (.iaload, 1) := by decide +kernel
theorem dX4_spanOf_22 : decode cX4_spanOf 22 = .ok (.ireturn, 1) := by decide +kernel
theorem dX4_levelFor_0 : decode cX4_levelFor 0 = .ok (.iconst 0, 1) := by decide +kernel
theorem dX4_levelFor_1 : decode cX4_levelFor 1 = .ok (.istore_n 2, 1) := by decide +kernel
theorem dX4_levelFor_2 : decode cX4_levelFor 2 = .ok (.iload_n 2, 1) := by decide +kernel
theorem dX4_levelFor_3 : decode cX4_levelFor 3 = .ok (.aload_n 0, 1) := by decide +kernel
theorem dX4_levelFor_4 : decode cX4_levelFor 4 = .ok (.getfield 33, 3) := by decide +kernel
theorem dX4_levelFor_7 : decode cX4_levelFor 7 = .ok (.if_icmp .ge 33, 3) := by decide +kernel
theorem dX4_levelFor_10 : decode cX4_levelFor 10 = .ok (.iload_n 2, 1) := by decide +kernel
theorem dX4_levelFor_11 : decode cX4_levelFor 11 = .ok (.iconst 4, 1) := by decide +kernel
theorem dX4_levelFor_12 : decode cX4_levelFor 12 = .ok (.if_icmp .ge 28, 3) := by decide +kernel
theorem dX4_levelFor_15 : decode cX4_levelFor 15 = .ok (.aload_n 0, 1) := by decide +kernel
theorem dX4_levelFor_16 : decode cX4_levelFor 16 = .ok (.getfield 9, 3) := by decide +kernel
theorem dX4_levelFor_19 : decode cX4_levelFor 19 = .ok (.iload_n 2, 1) := by decide +kernel
theorem dX4_levelFor_20 : decode cX4_levelFor 20 = .ok (.iaload, 1) := by decide +kernel
theorem dX4_levelFor_21 : decode cX4_levelFor 21 = .ok (.aload_n 0, 1) := by decide +kernel
theorem dX4_levelFor_22 : decode cX4_levelFor 22 = .ok (.getfield 15, 3) := by decide +kernel
theorem dX4_levelFor_25 : decode cX4_levelFor 25 = .ok (.iload_n 2, 1) := by decide +kernel
theorem dX4_levelFor_26 : decode cX4_levelFor 26 = .ok (.iaload, 1) := by decide +kernel
theorem dX4_levelFor_27 : decode cX4_levelFor 27 = .ok (.imul, 1) := by decide +kernel
theorem dX4_levelFor_28 : decode cX4_levelFor 28 = .ok (.iload_n 1, 1) := by decide +kernel
theorem dX4_levelFor_29 : decode cX4_levelFor 29 = .ok (.if_icmp .le 5, 3) := by decide +kernel
theorem dX4_levelFor_32 : decode cX4_levelFor 32 = .ok (.iload_n 2, 1) := by decide +kernel
theorem dX4_levelFor_33 : decode cX4_levelFor 33 = .ok (.ireturn, 1) := by decide +kernel
theorem dX4_levelFor_34 : decode cX4_levelFor 34 = .ok (.iinc 2 1, 3) := by decide +kernel
theorem dX4_levelFor_37 : decode cX4_levelFor 37 = .ok (.goto (-35), 3) := by decide +kernel
theorem dX4_levelFor_40 : decode cX4_levelFor 40 = .ok (.iconst (-1), 1) := by decide +kernel
theorem dX4_levelFor_41 : decode cX4_levelFor 41 = .ok (.ireturn, 1) := by decide +kernel
theorem dX4_slotFor_0 : decode cX4_slotFor 0 = .ok (.iload_n 1, 1) := by decide +kernel
theorem dX4_slotFor_1 : decode cX4_slotFor 1 = .ok (.ifCond .lt 28, 3) := by decide +kernel
theorem dX4_slotFor_4 : decode cX4_slotFor 4 = .ok (.iload_n 1, 1) := by decide +kernel
theorem dX4_slotFor_5 : decode cX4_slotFor 5 = .ok (.iconst 4, 1) := by decide +kernel
theorem dX4_slotFor_6 : decode cX4_slotFor 6 = .ok (.if_icmp .ge 23, 3) := by decide +kernel
theorem dX4_slotFor_9 : decode cX4_slotFor 9 = .ok (.aload_n 0, 1) := by decide +kernel
theorem dX4_slotFor_10 : decode cX4_slotFor 10 = .ok (.getfield 15, 3) := by decide +kernel
theorem dX4_slotFor_13 : decode cX4_slotFor 13 = .ok (.iload_n 1, 1) := by decide +kernel
theorem dX4_slotFor_14 : decode cX4_slotFor 14 = .ok (.iaload, 1) := by decide +kernel
theorem dX4_slotFor_15 : decode cX4_slotFor 15 = .ok (.iconst 1, 1) := by decide +kernel
theorem dX4_slotFor_16 : decode cX4_slotFor 16 = .ok (.if_icmp .lt 13, 3) := by decide +kernel
theorem dX4_slotFor_19 : decode cX4_slotFor 19 = .ok (.aload_n 0, 1) := by decide +kernel
theorem dX4_slotFor_20 : decode cX4_slotFor 20 = .ok (.getfield 9, 3) := by decide +kernel
theorem dX4_slotFor_23 : decode cX4_slotFor 23 = .ok (.iload_n 1, 1) := by decide +kernel
theorem dX4_slotFor_24 : decode cX4_slotFor 24 = .ok (.iaload, 1) := by decide +kernel
theorem dX4_slotFor_25 : decode cX4_slotFor 25 = .ok (.iconst 1, 1) := by decide +kernel
theorem dX4_slotFor_26 : decode cX4_slotFor 26 = .ok (.if_icmp .ge 5, 3) := by decide +kernel
theorem dX4_slotFor_29 : decode cX4_slotFor 29 = .ok (.iconst 0, 1) := by decide +kernel
theorem dX4_slotFor_30 : decode cX4_slotFor 30 = .ok (.ireturn, 1) := by decide +kernel
theorem dX4_slotFor_31 : decode cX4_slotFor 31 = .ok (.iload_n 2, 1) := by decide +kernel
theorem dX4_slotFor_32 : decode cX4_slotFor 32 = .ok (.aload_n 0, 1) := by decide +kernel
theorem dX4_slotFor_33 : decode cX4_slotFor 33 = .ok (.getfield 15, 3) := by decide +kernel
theorem dX4_slotFor_36 : decode cX4_slotFor 36 = .ok (.iload_n 1, 1) := by decide +kernel
theorem dX4_slotFor_37 : decode cX4_slotFor 37 = .ok (.iaload, 1) := by decide +kernel
theorem dX4_slotFor_38 : decode cX4_slotFor 38 = .ok (.idiv, 1) := by decide +kernel
theorem dX4_slotFor_39 : decode cX4_slotFor 39 = .ok (.aload_n 0, 1) := by decide +kernel
theorem dX4_slotFor_40 : decode cX4_slotFor 40 = .ok (.getfield 9, 3) := by decide +kernel
theorem dX4_slotFor_43 : decode cX4_slotFor 43 = .ok (.iload_n 1, 1) := by decide +kernel
theorem dX4_slotFor_44 : decode cX4_slotFor 44 = .ok (.iaload, 1) := by decide +kernel
theorem dX4_slotFor_45 : decode cX4_slotFor 45 = .ok (.irem, 1) := by decide +kernel
theorem dX4_slotFor_46 : decode cX4_slotFor 46 = .ok (.ireturn, 1) := by decide +kernel
theorem dX4_turnTime_0 : decode cX4_turnTime 0 = .ok (.aload_n 0, 1) := by decide +kernel
theorem dX4_turnTime_1 : decode cX4_turnTime 1 = .ok (.iload_n 1, 1) := by decide +kernel
theorem dX4_turnTime_2 : decode cX4_turnTime 2 = .ok (.invokevirtual 44, 3) := by decide +kernel
theorem dX4_turnTime_5 : decode cX4_turnTime 5 = .ok (.istore_n 3, 1) := by decide +kernel
theorem dX4_turnTime_6 : decode cX4_turnTime 6 = .ok (.iload_n 3, 1) := by decide +kernel
theorem dX4_turnTime_7 : decode cX4_turnTime 7 = .ok (.iconst 1, 1) := by decide +kernel
theorem dX4_turnTime_8 : decode cX4_turnTime 8 = .ok (.if_icmp .ge 7, 3) := by decide +kernel
theorem dX4_turnTime_11 : decode cX4_turnTime 11 = .ok (.iload_n 2, 1) := by decide +kernel
theorem dX4_turnTime_12 : decode cX4_turnTime 12 = .ok (.goto 8, 3) := by decide +kernel
theorem dX4_turnTime_15 : decode cX4_turnTime 15 = .ok (.iload_n 2, 1) := by decide +kernel
theorem dX4_turnTime_16 : decode cX4_turnTime 16 = .ok (.iload_n 2, 1) := by decide +kernel
theorem dX4_turnTime_17 : decode cX4_turnTime 17 = .ok (.iload_n 3, 1) := by decide +kernel
theorem dX4_turnTime_18 : decode cX4_turnTime 18 = .ok (.irem, 1) := by decide +kernel
theorem dX4_turnTime_19 : decode cX4_turnTime 19 = .ok (.isub, 1) := by decide +kernel
theorem dX4_turnTime_20 : decode cX4_turnTime 20 = .ok (.ireturn, 1) := by decide +kernel
theorem dX4_movesFrom_0 : decode cX4_movesFrom 0 = .ok (.iconst 0, 1) := by decide +kernel
theorem dX4_movesFrom_1 : decode cX4_movesFrom 1 = .ok (.istore_n 3, 1) := by decide +kernel
theorem dX4_movesFrom_2 : decode cX4_movesFrom 2 = .ok (.iload_n 1, 1) := by decide +kernel
theorem dX4_movesFrom_3 : decode cX4_movesFrom 3 = .ok (.istore 4, 2) := by decide +kernel
theorem dX4_movesFrom_5 : decode cX4_movesFrom 5 = .ok (.iconst 0, 1) := by decide +kernel
theorem dX4_movesFrom_6 : decode cX4_movesFrom 6 = .ok (.istore 5, 2) := by decide +kernel
theorem dX4_movesFrom_8 : decode cX4_movesFrom 8 = .ok (.iload 5, 2) := by decide +kernel
theorem dX4_movesFrom_10 : decode cX4_movesFrom 10 = .ok (.iconst 4, 1) := by decide +kernel
theorem dX4_movesFrom_11 : decode cX4_movesFrom 11 = .ok (.if_icmp .gt 32, 3) := by decide +kernel
theorem dX4_movesFrom_14 : decode cX4_movesFrom 14 = .ok (.iload 4, 2) := by decide +kernel
theorem dX4_movesFrom_16 : decode cX4_movesFrom 16 = .ok (.ifCond .eq 27, 3) := by decide +kernel
theorem dX4_movesFrom_19 : decode cX4_movesFrom 19 = .ok (.aload_n 0, 1) := by decide +kernel
theorem dX4_movesFrom_20 : decode cX4_movesFrom 20 = .ok (.iload_n 2, 1) := by decide +kernel
theorem dX4_movesFrom_21 : decode cX4_movesFrom 21 = .ok (.aload_n 0, 1) := by decide +kernel
theorem dX4_movesFrom_22 : decode cX4_movesFrom 22 = .ok (.iload 4, 2) := by decide +kernel
theorem dX4_movesFrom_24 : decode cX4_movesFrom 24 = .ok (.iload_n 2, 1) := by decide +kernel
theorem dX4_movesFrom_25 : decode cX4_movesFrom 25 = .ok (.invokevirtual 47, 3) := by decide +kernel
theorem dX4_movesFrom_28 : decode cX4_movesFrom 28 = .ok (.isub, 1) := by decide +kernel
theorem dX4_movesFrom_29 : decode cX4_movesFrom 29 = .ok (.invokevirtual 51, 3) := by decide +kernel
theorem dX4_movesFrom_32 : decode cX4_movesFrom 32 = .ok (.istore 4, 2) := by decide +kernel
theorem dX4_movesFrom_34 : decode cX4_movesFrom 34 = .ok (.iinc 3 1, 3) := by decide +kernel
theorem dX4_movesFrom_37 : decode cX4_movesFrom 37 = .ok (.iinc 5 1, 3) := by decide +kernel
theorem dX4_movesFrom_40 : decode cX4_movesFrom 40 = .ok (.goto (-32), 3) := by decide +kernel
theorem dX4_movesFrom_43 : decode cX4_movesFrom 43 = .ok (.iload_n 3, 1) := by decide +kernel
theorem dX4_movesFrom_44 : decode cX4_movesFrom 44 = .ok (.ireturn, 1) := by decide +kernel
theorem dX5_init_0 : decode cX5_init 0 = .ok (.aload_n 0, 1) := by decide +kernel
theorem dX5_init_1 : decode cX5_init 1 = .ok (.invokespecial 3, 3) := by decide +kernel
theorem dX5_init_4 : decode cX5_init 4 = .ok (.aload_n 0, 1) := by decide +kernel
theorem dX5_init_5 : decode cX5_init 5 = .ok (.bipush 100, 2) := by decide +kernel
theorem dX5_init_7 : decode cX5_init 7 = .ok (.newarray .int, 2) := by decide +kernel
theorem dX5_init_9 : decode cX5_init 9 = .ok (.putfield 9, 3) := by decide +kernel
theorem dX5_init_12 : decode cX5_init 12 = .ok (.return_, 1) := by decide +kernel
theorem dX5_append_0 : decode cX5_append 0 = .ok (.aload_n 0, 1) := by decide +kernel
theorem dX5_append_1 : decode cX5_append 1 = .ok (.getfield 15, 3) := by decide +kernel
theorem dX5_append_4 : decode cX5_append 4 = .ok (.ifCond .lt 12, 3) := by decide +kernel
theorem dX5_append_7 : decode cX5_append 7 = .ok (.aload_n 0, 1) := by decide +kernel
theorem dX5_append_8 : decode cX5_append 8 = .ok (.getfield 15, 3) := by decide +kernel
theorem dX5_append_11 : decode cX5_append 11 = .ok (.bipush 96, 2) := by decide +kernel
theorem dX5_append_13 : decode cX5_append 13 = .ok (.if_icmp .le 5, 3) := by decide +kernel
theorem dX5_append_16 : decode cX5_append 16 = .ok (.iconst 0, 1) := by decide +kernel
theorem dX5_append_17 : decode cX5_append 17 = .ok (.ireturn, 1) := by decide +kernel
theorem dX5_append_18 : decode cX5_append 18 = .ok (.iconst 0, 1) := by decide +kernel
theorem dX5_append_19 : decode cX5_append 19 = .ok (.istore_n 2, 1) := by decide +kernel
theorem dX5_append_20 : decode cX5_append 20 = .ok (.iload_n 2, 1) := by decide +kernel
theorem dX5_append_21 : decode cX5_append 21 = .ok (.iconst 4, 1) := by decide +kernel
theorem dX5_append_22 : decode cX5_append 22 = .ok (.if_icmp .ge 33, 3) := by decide +kernel
theorem dX5_append_25 : decode cX5_append 25 = .ok (.aload_n 0, 1) := by decide +kernel
theorem dX5_append_26 : decode cX5_append 26 = .ok (.getfield 9, 3) := by decide +kernel
theorem dX5_append_29 : decode cX5_append 29 = .ok (.aload_n 0, 1) := by decide +kernel
theorem dX5_append_30 : decode cX5_append 30 = .ok (.getfield 15, 3) := by decide +kernel
theorem dX5_append_33 : decode cX5_append 33 = .ok (.iload_n 2, 1) := by decide +kernel
theorem dX5_append_34 : decode cX5_append 34 = .ok (.iadd, 1) := by decide +kernel
theorem dX5_append_35 : decode cX5_append 35 = .ok (.iload_n 1, 1) := by decide +kernel
theorem dX5_append_36 : decode cX5_append 36 = .ok (.bipush 24, 2) := by decide +kernel
theorem dX5_append_38 : decode cX5_append 38 = .ok (.bipush 8, 2) := by decide +kernel
theorem dX5_append_40 : decode cX5_append 40 = .ok (.iload_n 2, 1) := by decide +kernel
theorem dX5_append_41 : decode cX5_append 41 = .ok (.imul, 1) := by decide +kernel
theorem dX5_append_42 : decode cX5_append 42 = .ok (.isub, 1) := by decide +kernel
theorem dX5_append_43 : decode cX5_append 43 = .ok (.iushr, 1) := by decide +kernel
theorem dX5_append_44 : decode cX5_append 44 = .ok (.sipush 255, 3) := by decide +kernel
theorem dX5_append_47 : decode cX5_append 47 = .ok (.iand, 1) := by decide +kernel
theorem dX5_append_48 : decode cX5_append 48 = .ok (.iastore, 1) := by decide +kernel
theorem dX5_append_49 : decode cX5_append 49 = .ok (.iinc 2 1, 3) := by decide +kernel
theorem dX5_append_52 : decode cX5_append 52 = .ok (.goto (-32), 3) := by decide +kernel
theorem dX5_append_55 : decode cX5_append 55 = .ok (.aload_n 0, 1) := by decide +kernel
theorem dX5_append_56 : decode cX5_append 56 = .ok (.dup, 1) := by decide +kernel
theorem dX5_append_57 : decode cX5_append 57 = .ok (.getfield 15, 3) := by decide +kernel
theorem dX5_append_60 : decode cX5_append 60 = .ok (.iconst 4, 1) := by decide +kernel
theorem dX5_append_61 : decode cX5_append 61 = .ok (.iadd, 1) := by decide +kernel
theorem dX5_append_62 : decode cX5_append 62 = .ok (.putfield 15, 3) := by decide +kernel
theorem dX5_append_65 : decode cX5_append 65 = .ok (.iconst 1, 1) := by decide +kernel
theorem dX5_append_66 : decode cX5_append 66 = .ok (.ireturn, 1) := by decide +kernel
theorem dX5_shorten_0 : decode cX5_shorten 0 = .ok (.aload_n 0, 1) := by decide +kernel
theorem dX5_shorten_1 : decode cX5_shorten 1 = .ok (.iload_n 1, 1) := by decide +kernel
theorem dX5_shorten_2 : decode cX5_shorten 2 = .ok (.putfield 15, 3) := by decide +kernel
theorem dX5_shorten_5 : decode cX5_shorten 5 = .ok (.return_, 1) := by decide +kernel
theorem dX5_at_0 : decode cX5_at 0 = .ok (.iload_n 1, 1) := by decide +kernel
theorem dX5_at_1 : decode cX5_at 1 = .ok (.ifCond .lt 17, 3) := by decide +kernel
theorem dX5_at_4 : decode cX5_at 4 = .ok (.iload_n 1, 1) := by decide +kernel
theorem dX5_at_5 : decode cX5_at 5 = .ok (.aload_n 0, 1) := by decide +kernel
theorem dX5_at_6 : decode cX5_at 6 = .ok (.getfield 15, 3) := by decide +kernel
theorem dX5_at_9 : decode cX5_at 9 = .ok (.if_icmp .ge 9, 3) := by decide +kernel
theorem dX5_at_12 : decode cX5_at 12 = .ok (.iload_n 1, 1) := by decide +kernel
theorem dX5_at_13 : decode cX5_at 13 = .ok (.bipush 100, 2) := by decide +kernel
theorem dX5_at_15 : decode cX5_at 15 = .ok (.if_icmp .lt 7, 3) := by decide +kernel
theorem dX5_at_18 : decode cX5_at 18 = .ok (.iconst (-1), 1) := by decide +kernel
theorem dX5_at_19 : decode cX5_at 19 = .ok (.goto 9, 3) := by decide +kernel
theorem dX5_at_22 : decode cX5_at 22 = .ok (.aload_n 0, 1) := by decide +kernel
theorem dX5_at_23 : decode cX5_at 23 = .ok (.getfield 9, 3) := by decide +kernel
theorem dX5_at_26 : decode cX5_at 26 = .ok (.iload_n 1, 1) := by decide +kernel
theorem dX5_at_27 : decode cX5_at 27 = .ok (.iaload, 1) := by decide +kernel
theorem dX5_at_28 : decode cX5_at 28 = .ok (.ireturn, 1) := by decide +kernel
theorem dX6_init_0 : decode cX6_init 0 = .ok (.aload_n 0, 1) := by decide +kernel
theorem dX6_init_1 : decode cX6_init 1 = .ok (.invokespecial 1, 3) := by decide +kernel
theorem dX6_init_4 : decode cX6_init 4 = .ok (.aload_n 0, 1) := by decide +kernel
theorem dX6_init_5 : decode cX6_init 5 = .ok (.iload_n 1, 1) := by decide +kernel
theorem dX6_init_6 : decode cX6_init 6 = .ok (.putfield 7, 3) := by decide +kernel
theorem dX6_init_9 : decode cX6_init 9 = .ok (.return_, 1) := by decide +kernel
theorem dX6_start_0 : decode cX6_start 0 = .ok (.aload_n 0, 1) := by decide +kernel
theorem dX6_start_1 : decode cX6_start 1 = .ok (.iconst 1, 1) := by decide +kernel
theorem dX6_start_2 : decode cX6_start 2 = .ok (.putfield 13, 3) := by decide +kernel
theorem dX6_start_5 : decode cX6_start 5 = .ok (.aload_n 0, 1) := by decide +kernel
theorem dX6_start_6 : decode cX6_start 6 = .ok (.iload_n 1, 1) := by decide +kernel
theorem dX6_start_7 : decode cX6_start 7 = .ok (.putfield 17, 3) := by decide +kernel
theorem dX6_start_10 : decode cX6_start 10 = .ok (.aload_n 0, 1) := by decide +kernel
theorem dX6_start_11 : decode cX6_start 11 = .ok (.iload_n 2, 1) := by decide +kernel
theorem dX6_start_12 : decode cX6_start 12 = .ok (.putfield 20, 3) := by decide +kernel
theorem dX6_start_15 : decode cX6_start 15 = .ok (.aload_n 0, 1) := by decide +kernel
theorem dX6_start_16 : decode cX6_start 16 = .ok (.iconst 0, 1) := by decide +kernel
theorem dX6_start_17 : decode cX6_start 17 = .ok (.putfield 23, 3) := by decide +kernel
theorem dX6_start_20 : decode cX6_start 20 = .ok (.aload_n 0, 1) := by decide +kernel
theorem dX6_start_21 : decode cX6_start 21 = .ok (.iconst 0, 1) := by decide +kernel
theorem dX6_start_22 : decode cX6_start 22 = .ok (.putfield 26, 3) := by decide +kernel
theorem dX6_start_25 : decode cX6_start 25 = .ok (.aload_n 0, 1) := by decide +kernel
theorem dX6_start_26 : decode cX6_start 26 = .ok (.iconst 0, 1) := by decide +kernel
theorem dX6_start_27 : decode cX6_start 27 = .ok (.putfield 29, 3) := by decide +kernel
theorem dX6_start_30 : decode cX6_start 30 = .ok (.aload_n 0, 1) := by decide +kernel
theorem dX6_start_31 : decode cX6_start 31 = .ok (.iconst 0, 1) := by decide +kernel
theorem dX6_start_32 : decode cX6_start 32 = .ok (.putfield 32, 3) := by decide +kernel
theorem dX6_start_35 : decode cX6_start 35 = .ok (.return_, 1) := by decide +kernel
theorem dX6_copy_0 : decode cX6_copy 0 = .ok (.aload_n 0, 1) := by decide +kernel
theorem dX6_copy_1 : decode cX6_copy 1 = .ok (.aload_n 1, 1) := by decide +kernel
theorem dX6_copy_2 : decode cX6_copy 2 = .ok (.getfield 13, 3) := by decide +kernel
theorem dX6_copy_5 : decode cX6_copy 5 = .ok (.putfield 13, 3) := by decide +kernel
theorem dX6_copy_8 : decode cX6_copy 8 = .ok (.aload_n 0, 1) := by decide +kernel
theorem dX6_copy_9 : decode cX6_copy 9 = .ok (.aload_n 1, 1) := by decide +kernel
theorem dX6_copy_10 : decode cX6_copy 10 = .ok (.getfield 17, 3) := by decide +kernel
theorem dX6_copy_13 : decode cX6_copy 13 = .ok (.putfield 17, 3) := by decide +kernel
theorem dX6_copy_16 : decode cX6_copy 16 = .ok (.aload_n 0, 1) := by decide +kernel
theorem dX6_copy_17 : decode cX6_copy 17 = .ok (.aload_n 1, 1) := by decide +kernel
theorem dX6_copy_18 : decode cX6_copy 18 = .ok (.getfield 35, 3) := by decide +kernel
theorem dX6_copy_21 : decode cX6_copy 21 = .ok (.putfield 35, 3) := by decide +kernel
theorem dX6_copy_24 : decode cX6_copy 24 = .ok (.aload_n 0, 1) := by decide +kernel
theorem dX6_copy_25 : decode cX6_copy 25 = .ok (.aload_n 1, 1) := by decide +kernel
theorem dX6_copy_26 : decode cX6_copy 26 = .ok (.getfield 20, 3) := by decide +kernel
theorem dX6_copy_29 : decode cX6_copy 29 = .ok (.putfield 20, 3) := by decide +kernel
theorem dX6_copy_32 : decode cX6_copy 32 = .ok (.aload_n 0, 1) := by decide +kernel
theorem dX6_copy_33 : decode cX6_copy 33 = .ok (.aload_n 1, 1) := by decide +kernel
theorem dX6_copy_34 : decode cX6_copy 34 = .ok (.getfield 38, 3) := by decide +kernel
theorem dX6_copy_37 : decode cX6_copy 37 = .ok (.putfield 38, 3) := by decide +kernel
theorem dX6_copy_40 : decode cX6_copy 40 = .ok (.aload_n 0, 1) := by decide +kernel
theorem dX6_copy_41 : decode cX6_copy 41 = .ok (.aload_n 1, 1) := by decide +kernel
theorem dX6_copy_42 : decode cX6_copy 42 = .ok (.getfield 41, 3) := by decide +kernel
theorem dX6_copy_45 : decode cX6_copy 45 = .ok (.putfield 41, 3) := by decide +kernel
theorem dX6_copy_48 : decode cX6_copy 48 = .ok (.aload_n 0, 1) := by decide +kernel
theorem dX6_copy_49 : decode cX6_copy 49 = .ok (.aload_n 1, 1) := by decide +kernel
theorem dX6_copy_50 : decode cX6_copy 50 = .ok (.getfield 44, 3) := by decide +kernel
theorem dX6_copy_53 : decode cX6_copy 53 = .ok (.putfield 44, 3) := by decide +kernel
theorem dX6_copy_56 : decode cX6_copy 56 = .ok (.aload_n 0, 1) := by decide +kernel
end
section
theorem dX6_copy_57 : decode cX6_copy 57 = .ok (.aload_n 1, 1) := by decide +kernel
theorem dX6_copy_58 : decode cX6_copy 58 = .ok (.getfield 47, 3) := by decide +kernel
theorem dX6_copy_61 : decode cX6_copy 61 = .ok (.putfield 47, 3) := by decide +kernel
theorem dX6_copy_64 : decode cX6_copy 64 = .ok (.aload_n 0, 1) := by decide +kernel
theorem dX6_copy_65 : decode cX6_copy 65 = .ok (.aload_n 1, 1) := by decide +kernel
theorem dX6_copy_66 : decode cX6_copy 66 = .ok (.getfield 23, 3) := by decide +kernel
theorem dX6_copy_69 : decode cX6_copy 69 = .ok (.putfield 23, 3) := by decide +kernel
theorem dX6_copy_72 : decode cX6_copy 72 = .ok (.aload_n 0, 1) := by decide +kernel
theorem dX6_copy_73 : decode cX6_copy 73 = .ok (.aload_n 1, 1) := by decide +kernel
theorem dX6_copy_74 : decode cX6_copy 74 = .ok (.getfield 26, 3) := by decide +kernel
theorem dX6_copy_77 : decode cX6_copy 77 = .ok (.putfield 26, 3) := by decide +kernel
theorem dX6_copy_80 : decode cX6_copy 80 = .ok (.aload_n 0, 1) := by decide +kernel
theorem dX6_copy_81 : decode cX6_copy 81 = .ok (.aload_n 1, 1) := by decide +kernel
theorem dX6_copy_82 : decode cX6_copy 82 = .ok (.getfield 29, 3) := by decide +kernel
theorem dX6_copy_85 : decode cX6_copy 85 = .ok (.putfield 29, 3) := by decide +kernel
theorem dX6_copy_88 : decode cX6_copy 88 = .ok (.aload_n 0, 1) := by decide +kernel
theorem dX6_copy_89 : decode cX6_copy 89 = .ok (.aload_n 1, 1) := by decide +kernel
theorem dX6_copy_90 : decode cX6_copy 90 = .ok (.getfield 32, 3) := by decide +kernel
theorem dX6_copy_93 : decode cX6_copy 93 = .ok (.putfield 32, 3) := by decide +kernel
theorem dX6_copy_96 : decode cX6_copy 96 = .ok (.aload_n 0, 1) := by decide +kernel
theorem dX6_copy_97 : decode cX6_copy 97 = .ok (.aload_n 1, 1) := by decide +kernel
theorem dX6_copy_98 : decode cX6_copy 98 = .ok (.getfield 50, 3) := by decide +kernel
theorem dX6_copy_101 : decode cX6_copy 101 = .ok (.putfield 50, 3) := by decide +kernel
theorem dX6_copy_104 : decode cX6_copy 104 = .ok (.aload_n 0, 1) := by decide +kernel
theorem dX6_copy_105 : decode cX6_copy 105 = .ok (.aload_n 1, 1) := by decide +kernel
theorem dX6_copy_106 : decode cX6_copy 106 = .ok (.getfield 53, 3) := by decide +kernel
theorem dX6_copy_109 : decode cX6_copy 109 = .ok (.putfield 53, 3) := by decide +kernel
theorem dX6_copy_112 : decode cX6_copy 112 = .ok (.return_, 1) := by decide +kernel
theorem dX6_isAhead_0 : decode cX6_isAhead 0 = .ok (.iload_n 2, 1) := by decide +kernel
theorem dX6_isAhead_1 : decode cX6_isAhead 1 = .ok (.ifCond .eq 31, 3) := by decide +kernel
theorem dX6_isAhead_4 : decode cX6_isAhead 4 = .ok (.aload_n 0, 1) := by decide +kernel
theorem dX6_isAhead_5 : decode cX6_isAhead 5 = .ok (.getfield 17, 3) := by decide +kernel
theorem dX6_isAhead_8 : decode cX6_isAhead 8 = .ok (.aload_n 1, 1) := by decide +kernel
theorem dX6_isAhead_9 : decode cX6_isAhead 9 = .ok (.getfield 17, 3) := by decide +kernel
theorem dX6_isAhead_12 : decode cX6_isAhead 12 = .ok (.if_icmp .eq 20, 3) := by decide +kernel
theorem dX6_isAhead_15 : decode cX6_isAhead 15 = .ok (.aload_n 0, 1) := by decide +kernel
theorem dX6_isAhead_16 : decode cX6_isAhead 16 = .ok (.getfield 17, 3) := by decide +kernel
theorem dX6_isAhead_19 : decode cX6_isAhead 19 = .ok (.aload_n 1, 1) := by decide +kernel
theorem dX6_isAhead_20 : decode cX6_isAhead 20 = .ok (.getfield 17, 3) := by decide +kernel
theorem dX6_isAhead_23 : decode cX6_isAhead 23 = .ok (.if_icmp .ge 7, 3) := by decide +kernel
theorem dX6_isAhead_26 : decode cX6_isAhead 26 = .ok (.iconst 1, 1) := by decide +kernel
theorem dX6_isAhead_27 : decode cX6_isAhead 27 = .ok (.goto 4, 3) := by decide +kernel
theorem dX6_isAhead_30 : decode cX6_isAhead 30 = .ok (.iconst 0, 1) := by decide +kernel
theorem dX6_isAhead_31 : decode cX6_isAhead 31 = .ok (.ireturn, 1) := by decide +kernel
theorem dX6_isAhead_32 : decode cX6_isAhead 32 = .ok (.iload_n 3, 1) := by decide +kernel
theorem dX6_isAhead_33 : decode cX6_isAhead 33 = .ok (.iconst 1, 1) := by decide +kernel
theorem dX6_isAhead_34 : decode cX6_isAhead 34 = .ok (.if_icmp .ne 31, 3) := by decide +kernel
theorem dX6_isAhead_37 : decode cX6_isAhead 37 = .ok (.aload_n 0, 1) := by decide +kernel
theorem dX6_isAhead_38 : decode cX6_isAhead 38 = .ok (.getfield 38, 3) := by decide +kernel
theorem dX6_isAhead_41 : decode cX6_isAhead 41 = .ok (.aload_n 1, 1) := by decide +kernel
theorem dX6_isAhead_42 : decode cX6_isAhead 42 = .ok (.getfield 38, 3) := by decide +kernel
theorem dX6_isAhead_45 : decode cX6_isAhead 45 = .ok (.if_icmp .eq 20, 3) := by decide +kernel
theorem dX6_isAhead_48 : decode cX6_isAhead 48 = .ok (.aload_n 0, 1) := by decide +kernel
theorem dX6_isAhead_49 : decode cX6_isAhead 49 = .ok (.getfield 38, 3) := by decide +kernel
theorem dX6_isAhead_52 : decode cX6_isAhead 52 = .ok (.aload_n 1, 1) := by decide +kernel
theorem dX6_isAhead_53 : decode cX6_isAhead 53 = .ok (.getfield 38, 3) := by decide +kernel
theorem dX6_isAhead_56 : decode cX6_isAhead 56 = .ok (.if_icmp .ge 7, 3) := by decide +kernel
theorem dX6_isAhead_59 : decode cX6_isAhead 59 = .ok (.iconst 1, 1) := by decide +kernel
theorem dX6_isAhead_60 : decode cX6_isAhead 60 = .ok (.goto 4, 3) := by decide +kernel
theorem dX6_isAhead_63 : decode cX6_isAhead 63 = .ok (.iconst 0, 1) := by decide +kernel
theorem dX6_isAhead_64 : decode cX6_isAhead 64 = .ok (.ireturn, 1) := by decide +kernel
theorem dX6_isAhead_65 : decode cX6_isAhead 65 = .ok (.iload_n 3, 1) := by decide +kernel
theorem dX6_isAhead_66 : decode cX6_isAhead 66 = .ok (.iconst 2, 1) := by decide +kernel
theorem dX6_isAhead_67 : decode cX6_isAhead 67 = .ok (.if_icmp .ne 22, 3) := by decide +kernel
theorem dX6_isAhead_70 : decode cX6_isAhead 70 = .ok (.aload_n 0, 1) := by decide +kernel
theorem dX6_isAhead_71 : decode cX6_isAhead 71 = .ok (.getfield 20, 3) := by decide +kernel
theorem dX6_isAhead_74 : decode cX6_isAhead 74 = .ok (.aload_n 1, 1) := by decide +kernel
theorem dX6_isAhead_75 : decode cX6_isAhead 75 = .ok (.getfield 20, 3) := by decide +kernel
theorem dX6_isAhead_78 : decode cX6_isAhead 78 = .ok (.if_icmp .le 7, 3) := by decide +kernel
theorem dX6_isAhead_81 : decode cX6_isAhead 81 = .ok (.iconst 1, 1) := by decide +kernel
theorem dX6_isAhead_82 : decode cX6_isAhead 82 = .ok (.goto 23, 3) := by decide +kernel
theorem dX6_isAhead_85 : decode cX6_isAhead 85 = .ok (.iconst 0, 1) := by decide +kernel
theorem dX6_isAhead_86 : decode cX6_isAhead 86 = .ok (.goto 19, 3) := by decide +kernel
theorem dX6_isAhead_89 : decode cX6_isAhead 89 = .ok (.aload_n 0, 1) := by decide +kernel
theorem dX6_isAhead_90 : decode cX6_isAhead 90 = .ok (.getfield 20, 3) := by decide +kernel
theorem dX6_isAhead_93 : decode cX6_isAhead 93 = .ok (.aload_n 1, 1) := by decide +kernel
theorem dX6_isAhead_94 : decode cX6_isAhead 94 = .ok (.getfield 20, 3) := by decide +kernel
theorem dX6_isAhead_97 : decode cX6_isAhead 97 = .ok (.if_icmp .ge 7, 3) := by decide +kernel
theorem dX6_isAhead_100 : decode cX6_isAhead 100 = .ok (.iconst 1, 1) := by decide +kernel
theorem dX6_isAhead_101 : decode cX6_isAhead 101 = .ok (.goto 4, 3) := by decide +kernel
theorem dX6_isAhead_104 : decode cX6_isAhead 104 = .ok (.iconst 0, 1) := by decide +kernel
theorem dX6_isAhead_105 : decode cX6_isAhead 105 = .ok (.ireturn, 1) := by decide +kernel
theorem dX7_init_0 : decode cX7_init 0 = .ok (.aload_n 0, 1) := by decide +kernel
theorem dX7_init_1 : decode cX7_init 1 = .ok (.invokespecial 3, 3) := by decide +kernel
theorem dX7_init_4 : decode cX7_init 4 = .ok (.aload_n 0, 1) := by decide +kernel
theorem dX7_init_5 : decode cX7_init 5 = .ok (.new 9, 3) := by decide +kernel
theorem dX7_init_8 : decode cX7_init 8 = .ok (.dup, 1) := by decide +kernel
theorem dX7_init_9 : decode cX7_init 9 = .ok (.invokespecial 11, 3) := by decide +kernel
theorem dX7_init_12 : decode cX7_init 12 = .ok (.putfield 12, 3) := by decide +kernel
theorem dX7_init_15 : decode cX7_init 15 = .ok (.aload_n 0, 1) := by decide +kernel
theorem dX7_init_16 : decode cX7_init 16 = .ok (.bipush 16, 2) := by decide +kernel
theorem dX7_init_18 : decode cX7_init 18 = .ok (.anewarray 18, 3) := by decide +kernel
theorem dX7_init_21 : decode cX7_init 21 = .ok (.putfield 20, 3) := by decide +kernel
theorem dX7_init_24 : decode cX7_init 24 = .ok (.aload_n 0, 1) := by decide +kernel
theorem dX7_init_25 : decode cX7_init 25 = .ok (.new 24, 3) := by decide +kernel
theorem dX7_init_28 : decode cX7_init 28 = .ok (.dup, 1) := by decide +kernel
theorem dX7_init_29 : decode cX7_init 29 = .ok (.invokespecial 26, 3) := by decide +kernel
theorem dX7_init_32 : decode cX7_init 32 = .ok (.putfield 27, 3) := by decide +kernel
theorem dX7_init_35 : decode cX7_init 35 = .ok (.iconst 0, 1) := by decide +kernel
theorem dX7_init_36 : decode cX7_init 36 = .ok (.istore_n 1, 1) := by decide +kernel
theorem dX7_init_37 : decode cX7_init 37 = .ok (.iload_n 1, 1) := by decide +kernel
theorem dX7_init_38 : decode cX7_init 38 = .ok (.bipush 16, 2) := by decide +kernel
theorem dX7_init_40 : decode cX7_init 40 = .ok (.if_icmp .ge 23, 3) := by decide +kernel
theorem dX7_init_43 : decode cX7_init 43 = .ok (.aload_n 0, 1) := by decide +kernel
theorem dX7_init_44 : decode cX7_init 44 = .ok (.getfield 20, 3) := by decide +kernel
theorem dX7_init_47 : decode cX7_init 47 = .ok (.iload_n 1, 1) := by decide +kernel
theorem dX7_init_48 : decode cX7_init 48 = .ok (.new 18, 3) := by decide +kernel
theorem dX7_init_51 : decode cX7_init 51 = .ok (.dup, 1) := by decide +kernel
theorem dX7_init_52 : decode cX7_init 52 = .ok (.iload_n 1, 1) := by decide +kernel
theorem dX7_init_53 : decode cX7_init 53 = .ok (.invokespecial 31, 3) := by decide +kernel
theorem dX7_init_56 : decode cX7_init 56 = .ok (.aastore, 1) := by decide +kernel
theorem dX7_init_57 : decode cX7_init 57 = .ok (.iinc 1 1, 3) := by decide +kernel
theorem dX7_init_60 : decode cX7_init 60 = .ok (.goto (-23), 3) := by decide +kernel
theorem dX7_init_63 : decode cX7_init 63 = .ok (.aload_n 0, 1) := by decide +kernel
theorem dX7_init_64 : decode cX7_init 64 = .ok (.getfield 12, 3) := by decide +kernel
theorem dX7_init_67 : decode cX7_init 67 = .ok (.iconst 4, 1) := by decide +kernel
theorem dX7_init_68 : decode cX7_init 68 = .ok (.iconst 4, 1) := by decide +kernel
theorem dX7_init_69 : decode cX7_init 69 = .ok (.iconst 4, 1) := by decide +kernel
theorem dX7_init_70 : decode cX7_init 70 = .ok (.iconst 0, 1) := by decide +kernel
theorem dX7_init_71 : decode cX7_init 71 = .ok (.invokevirtual 34, 3) := by decide +kernel
theorem dX7_init_74 : decode cX7_init 74 = .ok (.return_, 1) := by decide +kernel
theorem dX7_copy_0 : decode cX7_copy 0 = .ok (.aload_n 0, 1) := by decide +kernel
theorem dX7_copy_1 : decode cX7_copy 1 = .ok (.getfield 12, 3) := by decide +kernel
theorem dX7_copy_4 : decode cX7_copy 4 = .ok (.aload_n 1, 1) := by decide +kernel
theorem dX7_copy_5 : decode cX7_copy 5 = .ok (.getfield 12, 3) := by decide +kernel
theorem dX7_copy_8 : decode cX7_copy 8 = .ok (.invokevirtual 38, 3) := by decide +kernel
theorem dX7_copy_11 : decode cX7_copy 11 = .ok (.iconst 0, 1) := by decide +kernel
theorem dX7_copy_12 : decode cX7_copy 12 = .ok (.istore_n 2, 1) := by decide +kernel
theorem dX7_copy_13 : decode cX7_copy 13 = .ok (.iload_n 2, 1) := by decide +kernel
theorem dX7_copy_14 : decode cX7_copy 14 = .ok (.bipush 16, 2) := by decide +kernel
theorem dX7_copy_16 : decode cX7_copy 16 = .ok (.if_icmp .ge 39, 3) := by decide +kernel
theorem dX7_copy_19 : decode cX7_copy 19 = .ok (.aload_n 0, 1) := by decide +kernel
theorem dX7_copy_20 : decode cX7_copy 20 = .ok (.getfield 20, 3) := by decide +kernel
theorem dX7_copy_23 : decode cX7_copy 23 = .ok (.iload_n 2, 1) := by decide +kernel
theorem dX7_copy_24 : decode cX7_copy 24 = .ok (.aaload, 1) := by decide +kernel
theorem dX7_copy_25 : decode cX7_copy 25 = .ok (.astore_n 3, 1) := by decide +kernel
theorem dX7_copy_26 : decode cX7_copy 26 = .ok (.aload_n 1, 1) := by decide +kernel
theorem dX7_copy_27 : decode cX7_copy 27 = .ok (.getfield 20, 3) := by decide +kernel
theorem dX7_copy_30 : decode cX7_copy 30 = .ok (.iload_n 2, 1) := by decide +kernel
theorem dX7_copy_31 : decode cX7_copy 31 = .ok (.aaload, 1) := by decide +kernel
theorem dX7_copy_32 : decode cX7_copy 32 = .ok (.astore 4, 2) := by decide +kernel
theorem dX7_copy_34 : decode cX7_copy 34 = .ok (.aload_n 3, 1) := by decide +kernel
theorem dX7_copy_35 : decode cX7_copy 35 = .ok (.ifnull 14, 3) := by decide +kernel
theorem dX7_copy_38 : decode cX7_copy 38 = .ok (.aload 4, 2) := by decide +kernel
theorem dX7_copy_40 : decode cX7_copy 40 = .ok (.ifnull 9, 3) := by decide +kernel
theorem dX7_copy_43 : decode cX7_copy 43 = .ok (.aload_n 3, 1) := by decide +kernel
theorem dX7_copy_44 : decode cX7_copy 44 = .ok (.aload 4, 2) := by decide +kernel
theorem dX7_copy_46 : decode cX7_copy 46 = .ok (.invokevirtual 42, 3) := by decide +kernel
theorem dX7_copy_49 : decode cX7_copy 49 = .ok (.iinc 2 1, 3) := by decide +kernel
theorem dX7_copy_52 : decode cX7_copy 52 = .ok (.goto (-39), 3) := by decide +kernel
theorem dX7_copy_55 : decode cX7_copy 55 = .ok (.aload_n 0, 1) := by decide +kernel
theorem dX7_copy_56 : decode cX7_copy 56 = .ok (.aload_n 1, 1) := by decide +kernel
theorem dX7_copy_57 : decode cX7_copy 57 = .ok (.getfield 45, 3) := by decide +kernel
theorem dX7_copy_60 : decode cX7_copy 60 = .ok (.putfield 45, 3) := by decide +kernel
theorem dX7_copy_63 : decode cX7_copy 63 = .ok (.aload_n 0, 1) := by decide +kernel
theorem dX7_copy_64 : decode cX7_copy 64 = .ok (.aload_n 1, 1) := by decide +kernel
theorem dX7_copy_65 : decode cX7_copy 65 = .ok (.getfield 49, 3) := by decide +kernel
theorem dX7_copy_68 : decode cX7_copy 68 = .ok (.putfield 49, 3) := by decide +kernel
theorem dX7_copy_71 : decode cX7_copy 71 = .ok (.aload_n 0, 1) := by decide +kernel
theorem dX7_copy_72 : decode cX7_copy 72 = .ok (.aload_n 1, 1) := by decide +kernel
theorem dX7_copy_73 : decode cX7_copy 73 = .ok (.getfield 52, 3) := by decide +kernel
theorem dX7_copy_76 : decode cX7_copy 76 = .ok (.putfield 52, 3) := by decide +kernel
theorem dX7_copy_79 : decode cX7_copy 79 = .ok (.aload_n 0, 1) := by decide +kernel
theorem dX7_copy_80 : decode cX7_copy 80 = .ok (.aload_n 1, 1) := by decide +kernel
theorem dX7_copy_81 : decode cX7_copy 81 = .ok (.getfield 55, 3) := by decide +kernel
theorem dX7_copy_84 : decode cX7_copy 84 = .ok (.putfield 55, 3) := by decide +kernel
theorem dX7_copy_87 : decode cX7_copy 87 = .ok (.return_, 1) := by decide +kernel
theorem dX7_find_0 : decode cX7_find 0 = .ok (.iload_n 1, 1) := by decide +kernel
theorem dX7_find_1 : decode cX7_find 1 = .ok (.ifCond .lt 9, 3) := by decide +kernel
theorem dX7_find_4 : decode cX7_find 4 = .ok (.iload_n 1, 1) := by decide +kernel
theorem dX7_find_5 : decode cX7_find 5 = .ok (.bipush 16, 2) := by decide +kernel
theorem dX7_find_7 : decode cX7_find 7 = .ok (.if_icmp .lt 5, 3) := by decide +kernel
theorem dX7_find_10 : decode cX7_find 10 = .ok (.aconst_null, 1) := by decide +kernel
theorem dX7_find_11 : decode cX7_find 11 = .ok (.areturn, 1) := by decide +kernel
theorem dX7_find_12 : decode cX7_find 12 = .ok (.aload_n 0, 1) := by decide +kernel
theorem dX7_find_13 : decode cX7_find 13 = .ok (.getfield 20, 3) := by decide +kernel
theorem dX7_find_16 : decode cX7_find 16 = .ok (.iload_n 1, 1) := by decide +kernel
theorem dX7_find_17 : decode cX7_find 17 = .ok (.aaload, 1) := by decide +kernel
theorem dX7_find_18 : decode cX7_find 18 = .ok (.astore_n 2, 1) := by decide +kernel
theorem dX7_find_19 : decode cX7_find 19 = .ok (.aload_n 2, 1) := by decide +kernel
theorem dX7_find_20 : decode cX7_find 20 = .ok (.ifnull 10, 3) := by decide +kernel
theorem dX7_find_23 : decode cX7_find 23 = .ok (.aload_n 2, 1) := by decide +kernel
theorem dX7_find_24 : decode cX7_find 24 = .ok (.getfield 58, 3) := by decide +kernel
theorem dX7_find_27 : decode cX7_find 27 = .ok (.ifCond .ne 7, 3) := by decide +kernel
theorem dX7_find_30 : decode cX7_find 30 = .ok (.aconst_null, 1) := by decide +kernel
theorem dX7_find_31 : decode cX7_find 31 = .ok (.goto 4, 3) := by decide +kernel
theorem dX7_find_34 : decode cX7_find 34 = .ok (.aload_n 2, 1) := by decide +kernel
theorem dX7_find_35 : decode cX7_find 35 = .ok (.areturn, 1) := by decide +kernel
theorem dX7_findRunning_0 : decode cX7_findRunning 0 = .ok (.aload_n 0, 1) := by decide +kernel
theorem dX7_findRunning_1 : decode cX7_findRunning 1 = .ok (.iload_n 1, 1) := by decide +kernel
theorem dX7_findRunning_2 : decode cX7_findRunning 2 = .ok (.invokevirtual 62, 3) := by decide +kernel
theorem dX7_findRunning_5 : decode cX7_findRunning 5 = .ok (.astore_n 2, 1) := by decide +kernel
theorem dX7_findRunning_6 : decode cX7_findRunning 6 = .ok (.aload_n 2, 1) := by decide +kernel
theorem dX7_findRunning_7 : decode cX7_findRunning 7 = .ok (.ifnull 10, 3) := by decide +kernel
theorem dX7_findRunning_10 : decode cX7_findRunning 10 = .ok (.aload_n 2, 1) := by decide +kernel
theorem dX7_findRunning_11 : decode cX7_findRunning 11 = .ok (.getfield 66, 3) := by decide +kernel
theorem dX7_findRunning_14 : decode cX7_findRunning 14 = .ok (.ifCond .eq 7, 3) := by decide +kernel
theorem dX7_findRunning_17 : decode cX7_findRunning 17 = .ok (.aconst_null, 1) := by decide +kernel
theorem dX7_findRunning_18 : decode cX7_findRunning 18 = .ok (.goto 4, 3) := by decide +kernel
theorem dX7_findRunning_21 : decode cX7_findRunning 21 = .ok (.aload_n 2, 1) := by decide +kernel
theorem dX7_findRunning_22 : decode cX7_findRunning 22 = .ok (.areturn, 1) := by decide +kernel
theorem dX7_leastFree_0 : decode cX7_leastFree 0 = .ok (.iconst 0, 1) := by decide +kernel
theorem dX7_leastFree_1 : decode cX7_leastFree 1 = .ok (.istore_n 1, 1) := by decide +kernel
theorem dX7_leastFree_2 : decode cX7_leastFree 2 = .ok (.iload_n 1, 1) := by decide +kernel
theorem dX7_leastFree_3 : decode cX7_leastFree 3 = .ok (.bipush 16, 2) := by decide +kernel
theorem dX7_leastFree_5 : decode cX7_leastFree 5 = .ok (.if_icmp .ge 29, 3) := by decide +kernel
theorem dX7_leastFree_8 : decode cX7_leastFree 8 = .ok (.aload_n 0, 1) := by decide +kernel
theorem dX7_leastFree_9 : decode cX7_leastFree 9 = .ok (.getfield 20, 3) := by decide +kernel
theorem dX7_leastFree_12 : decode cX7_leastFree 12 = .ok (.iload_n 1, 1) := by decide +kernel
theorem dX7_leastFree_13 : decode cX7_leastFree 13 = .ok (.aaload, 1) := by decide +kernel
theorem dX7_leastFree_14 : decode cX7_leastFree 14 = .ok (.astore_n 2, 1) := by decide +kernel
theorem dX7_leastFree_15 : decode cX7_leastFree 15 = .ok (.aload_n 2, 1) := by decide +kernel
theorem dX7_leastFree_16 : decode cX7_leastFree 16 = .ok (.ifnull 12, 3) := by decide +kernel
theorem dX7_leastFree_19 : decode cX7_leastFree 19 = .ok (.aload_n 2, 1) := by decide +kernel
theorem dX7_leastFree_20 : decode cX7_leastFree 20 = .ok (.getfield 58, 3) := by decide +kernel
theorem dX7_leastFree_23 : decode cX7_leastFree 23 = .ok (.ifCond .ne 5, 3) := by decide +kernel
theorem dX7_leastFree_26 : decode cX7_leastFree 26 = .ok (.aload_n 2, 1) := by decide +kernel
theorem dX7_leastFree_27 : decode cX7_leastFree 27 = .ok (.areturn, 1) := by decide +kernel
theorem dX7_leastFree_28 : decode cX7_leastFree 28 = .ok (.iinc 1 1, 3) := by decide +kernel
theorem dX7_leastFree_31 : decode cX7_leastFree 31 = .ok (.goto (-29), 3) := by decide +kernel
theorem dX7_leastFree_34 : decode cX7_leastFree 34 = .ok (.aconst_null, 1) := by decide +kernel
theorem dX7_leastFree_35 : decode cX7_leastFree 35 = .ok (.areturn, 1) := by decide +kernel
theorem dX7_firstDue_0 : decode cX7_firstDue 0 = .ok (.aconst_null, 1) := by decide +kernel
theorem dX7_firstDue_1 : decode cX7_firstDue 1 = .ok (.astore_n 1, 1) := by decide +kernel
theorem dX7_firstDue_2 : decode cX7_firstDue 2 = .ok (.iconst 0, 1) := by decide +kernel
theorem dX7_firstDue_3 : decode cX7_firstDue 3 = .ok (.istore_n 2, 1) := by decide +kernel
theorem dX7_firstDue_4 : decode cX7_firstDue 4 = .ok (.iload_n 2, 1) := by decide +kernel
theorem dX7_firstDue_5 : decode cX7_firstDue 5 = .ok (.bipush 16, 2) := by decide +kernel
theorem dX7_firstDue_7 : decode cX7_firstDue 7 = .ok (.if_icmp .ge 36, 3) := by decide +kernel
theorem dX7_firstDue_10 : decode cX7_firstDue 10 = .ok (.aload_n 0, 1) := by decide +kernel
theorem dX7_firstDue_11 : decode cX7_firstDue 11 = .ok (.iload_n 2, 1) := by decide +kernel
theorem dX7_firstDue_12 : decode cX7_firstDue 12 = .ok (.invokevirtual 69, 3) := by decide +kernel
theorem dX7_firstDue_15 : decode cX7_firstDue 15 = .ok (.astore_n 3, 1) := by decide +kernel
theorem dX7_firstDue_16 : decode cX7_firstDue 16 = .ok (.aload_n 3, 1) := by decide +kernel
theorem dX7_firstDue_17 : decode cX7_firstDue 17 = .ok (.ifnull 20, 3) := by decide +kernel
theorem dX7_firstDue_20 : decode cX7_firstDue 20 = .ok (.aload_n 1, 1) := by decide +kernel
theorem dX7_firstDue_21 : decode cX7_firstDue 21 = .ok (.ifnull 14, 3) := by decide +kernel
theorem dX7_firstDue_24 : decode cX7_firstDue 24 = .ok (.aload_n 3, 1) := by decide +kernel
theorem dX7_firstDue_25 : decode cX7_firstDue 25 = .ok (.getfield 72, 3) := by decide +kernel
theorem dX7_firstDue_28 : decode cX7_firstDue 28 = .ok (.aload_n 1, 1) := by decide +kernel
theorem dX7_firstDue_29 : decode cX7_firstDue 29 = .ok (.getfield 72, 3) := by decide +kernel
theorem dX7_firstDue_32 : decode cX7_firstDue 32 = .ok (.if_icmp .ge 5, 3) := by decide +kernel
theorem dX7_firstDue_35 : decode cX7_firstDue 35 = .ok (.aload_n 3, 1) := by decide +kernel
theorem dX7_firstDue_36 : decode cX7_firstDue 36 = .ok (.astore_n 1, 1) := by decide +kernel
theorem dX7_firstDue_37 : decode cX7_firstDue 37 = .ok (.iinc 2 1, 3) := by decide +kernel
theorem dX7_firstDue_40 : decode cX7_firstDue 40 = .ok (.goto (-36), 3) := by decide +kernel
theorem dX7_firstDue_43 : decode cX7_firstDue 43 = .ok (.aload_n 1, 1) := by decide +kernel
theorem dX7_firstDue_44 : decode cX7_firstDue 44 = .ok (.areturn, 1) := by decide +kernel
theorem dX7_countSet_0 : decode cX7_countSet 0 = .ok (.iconst 0, 1) := by decide +kernel
theorem dX7_countSet_1 : decode cX7_countSet 1 = .ok (.istore_n 1, 1) := by decide +kernel
theorem dX7_countSet_2 : decode cX7_countSet 2 = .ok (.iconst 0, 1) := by decide +kernel
theorem dX7_countSet_3 : decode cX7_countSet 3 = .ok (.istore_n 2, 1) := by decide +kernel
theorem dX7_countSet_4 : decode cX7_countSet 4 = .ok (.iload_n 2, 1) := by decide +kernel
theorem dX7_countSet_5 : decode cX7_countSet 5 = .ok (.bipush 16, 2) := by decide +kernel
theorem dX7_countSet_7 : decode cX7_countSet 7 = .ok (.if_icmp .ge 25, 3) := by decide +kernel
theorem dX7_countSet_10 : decode cX7_countSet 10 = .ok (.iload_n 1, 1) := by decide +kernel
theorem dX7_countSet_11 : decode cX7_countSet 11 = .ok (.aload_n 0, 1) := by decide +kernel
theorem dX7_countSet_12 : decode cX7_countSet 12 = .ok (.iload_n 2, 1) := by decide +kernel
theorem dX7_countSet_13 : decode cX7_countSet 13 = .ok (.invokevirtual 62, 3) := by decide +kernel
theorem dX7_countSet_16 : decode cX7_countSet 16 = .ok (.ifnonnull 7, 3) := by decide +kernel
theorem dX7_countSet_19 : decode cX7_countSet 19 = .ok (.iconst 0, 1) := by decide +kernel
theorem dX7_countSet_20 : decode cX7_countSet 20 = .ok (.goto 4, 3) := by decide +kernel
theorem dX7_countSet_23 : decode cX7_countSet 23 = .ok (.iconst 1, 1) := by decide +kernel
theorem dX7_countSet_24 : decode cX7_countSet 24 = .ok (.iadd, 1) := by decide +kernel
theorem dX7_countSet_25 : decode cX7_countSet 25 = .ok (.istore_n 1, 1) := by decide +kernel
theorem dX7_countSet_26 : decode cX7_countSet 26 = .ok (.iinc 2 1, 3) := by decide +kernel
theorem dX7_countSet_29 : decode cX7_countSet 29 = .ok (.goto (-25), 3) := by decide +kernel
theorem dX7_countSet_32 : decode cX7_countSet 32 = .ok (.iload_n 1, 1) := by decide +kernel
theorem dX7_countSet_33 : decode cX7_countSet 33 = .ok (.ireturn, 1) := by decide +kernel
theorem dX7_countOn_0 : decode cX7_countOn 0 = .ok (.iconst 0, 1) := by decide +kernel
theorem dX7_countOn_1 : decode cX7_countOn 1 = .ok (.istore_n 2, 1) := by decide +kernel
theorem dX7_countOn_2 : decode cX7_countOn 2 = .ok (.iconst 0, 1) := by decide +kernel
theorem dX7_countOn_3 : decode cX7_countOn 3 = .ok (.istore_n 3, 1) := by decide +kernel
theorem dX7_countOn_4 : decode cX7_countOn 4 = .ok (.iload_n 3, 1) := by decide +kernel
theorem dX7_countOn_5 : decode cX7_countOn 5 = .ok (.bipush 16, 2) := by decide +kernel
theorem dX7_countOn_7 : decode cX7_countOn 7 = .ok (.if_icmp .ge 38, 3) := by decide +kernel
theorem dX7_countOn_10 : decode cX7_countOn 10 = .ok (.aload_n 0, 1) := by decide +kernel
theorem dX7_countOn_11 : decode cX7_countOn 11 = .ok (.iload_n 3, 1) := by decide +kernel
theorem dX7_countOn_12 : decode cX7_countOn 12 = .ok (.invokevirtual 62, 3) := by decide +kernel
theorem dX7_countOn_15 : decode cX7_countOn 15 = .ok (.astore 4, 2) := by decide +kernel
theorem dX7_countOn_17 : decode cX7_countOn 17 = .ok (.iload_n 2, 1) := by decide +kernel
theorem dX7_countOn_18 : decode cX7_countOn 18 = .ok (.aload 4, 2) := by decide +kernel
theorem dX7_countOn_20 : decode cX7_countOn 20 = .ok (.ifnull 16, 3) := by decide +kernel
theorem dX7_countOn_23 : decode cX7_countOn 23 = .ok (.aload 4, 2) := by decide +kernel
theorem dX7_countOn_25 : decode cX7_countOn 25 = .ok (.getfield 75, 3) := by decide +kernel
theorem dX7_countOn_28 : decode cX7_countOn 28 = .ok (.iload_n 1, 1) := by decide +kernel
theorem dX7_countOn_29 : decode cX7_countOn 29 = .ok (.if_icmp .ne 7, 3) := by decide +kernel
theorem dX7_countOn_32 : decode cX7_countOn 32 = .ok (.iconst 1, 1) := by decide +kernel
theorem dX7_countOn_33 : decode cX7_countOn 33 = .ok (.goto 4, 3) := by decide +kernel
theorem dX7_countOn_36 : decode cX7_countOn 36 = .ok (.iconst 0, 1) := by decide +kernel
theorem dX7_countOn_37 : decode cX7_countOn 37 = .ok (.iadd, 1) := by decide +kernel
theorem dX7_countOn_38 : decode cX7_countOn 38 = .ok (.istore_n 2, 1) := by decide +kernel
theorem dX7_countOn_39 : decode cX7_countOn 39 = .ok (.iinc 3 1, 3) := by decide +kernel
theorem dX7_countOn_42 : decode cX7_countOn 42 = .ok (.goto (-38), 3) := by decide +kernel
theorem dX7_countOn_45 : decode cX7_countOn 45 = .ok (.iload_n 2, 1) := by decide +kernel
theorem dX7_countOn_46 : decode cX7_countOn 46 = .ok (.ireturn, 1) := by decide +kernel
theorem dX7_countIn_0 : decode cX7_countIn 0 = .ok (.iconst 0, 1) := by decide +kernel
theorem dX7_countIn_1 : decode cX7_countIn 1 = .ok (.istore_n 3, 1) := by decide +kernel
theorem dX7_countIn_2 : decode cX7_countIn 2 = .ok (.iconst 0, 1) := by decide +kernel
theorem dX7_countIn_3 : decode cX7_countIn 3 = .ok (.istore 4, 2) := by decide +kernel
theorem dX7_countIn_5 : decode cX7_countIn 5 = .ok (.iload 4, 2) := by decide +kernel
theorem dX7_countIn_7 : decode cX7_countIn 7 = .ok (.bipush 16, 2) := by decide +kernel
theorem dX7_countIn_9 : decode cX7_countIn 9 = .ok (.if_icmp .ge 48, 3) := by decide +kernel
theorem dX7_countIn_12 : decode cX7_countIn 12 = .ok (.aload_n 0, 1) := by decide +kernel
theorem dX7_countIn_13 : decode cX7_countIn 13 = .ok (.iload 4, 2) := by decide +kernel
theorem dX7_countIn_15 : decode cX7_countIn 15 = .ok (.invokevirtual 62, 3) := by decide +kernel
theorem dX7_countIn_18 : decode cX7_countIn 18 = .ok (.astore 5, 2) := by decide +kernel
theorem dX7_countIn_20 : decode cX7_countIn 20 = .ok (.iload_n 3, 1) := by decide +kernel
theorem dX7_countIn_21 : decode cX7_countIn 21 = .ok (.aload 5, 2) := by decide +kernel
theorem dX7_countIn_23 : decode cX7_countIn 23 = .ok (.ifnull 25, 3) := by decide +kernel
theorem dX7_countIn_26 : decode cX7_countIn 26 = .ok (.aload 5, 2) := by decide +kernel
theorem dX7_countIn_28 : decode cX7_countIn 28 = .ok (.getfield 75, 3) := by decide +kernel
theorem dX7_countIn_31 : decode cX7_countIn 31 = .ok (.iload_n 1, 1) := by decide +kernel
theorem dX7_countIn_32 : decode cX7_countIn 32 = .ok (.if_icmp .ne 16, 3) := by decide +kernel
theorem dX7_countIn_35 : decode cX7_countIn 35 = .ok (.aload 5, 2) := by decide +kernel
theorem dX7_countIn_37 : decode cX7_countIn 37 = .ok (.getfield 78, 3) := by decide +kernel
theorem dX7_countIn_40 : decode cX7_countIn 40 = .ok (.iload_n 2, 1) := by decide +kernel
theorem dX7_countIn_41 : decode cX7_countIn 41 = .ok (.if_icmp .ne 7, 3) := by decide +kernel
theorem dX7_countIn_44 : decode cX7_countIn 44 = .ok (.iconst 1, 1) := by decide +kernel
theorem dX7_countIn_45 : decode cX7_countIn 45 = .ok (.goto 4, 3) := by decide +kernel
theorem dX7_countIn_48 : decode cX7_countIn 48 = .ok (.iconst 0, 1) := by decide +kernel
theorem dX7_countIn_49 : decode cX7_countIn 49 = .ok (.iadd, 1) := by decide +kernel
theorem dX7_countIn_50 : decode cX7_countIn 50 = .ok (.istore_n 3, 1) := by decide +kernel
theorem dX7_countIn_51 : decode cX7_countIn 51 = .ok (.iinc 4 1, 3) := by decide +kernel
theorem dX7_countIn_54 : decode cX7_countIn 54 = .ok (.goto (-49), 3) := by decide +kernel
theorem dX7_countIn_57 : decode cX7_countIn 57 = .ok (.iload_n 3, 1) := by decide +kernel
theorem dX7_countIn_58 : decode cX7_countIn 58 = .ok (.ireturn, 1) := by decide +kernel
theorem dX7_lay_0 : decode cX7_lay 0 = .ok (.aload_n 1, 1) := by decide +kernel
theorem dX7_lay_1 : decode cX7_lay 1 = .ok (.aload_n 0, 1) := by decide +kernel
theorem dX7_lay_2 : decode cX7_lay 2 = .ok (.getfield 12, 3) := by decide +kernel
theorem dX7_lay_5 : decode cX7_lay 5 = .ok (.aload_n 1, 1) := by decide +kernel
theorem dX7_lay_6 : decode cX7_lay 6 = .ok (.getfield 72, 3) := by decide +kernel
theorem dX7_lay_9 : decode cX7_lay 9 = .ok (.aload_n 0, 1) := by decide +kernel
theorem dX7_lay_10 : decode cX7_lay 10 = .ok (.getfield 45, 3) := by decide +kernel
theorem dX7_lay_13 : decode cX7_lay 13 = .ok (.isub, 1) := by decide +kernel
theorem dX7_lay_14 : decode cX7_lay 14 = .ok (.invokevirtual 81, 3) := by decide +kernel
theorem dX7_lay_17 : decode cX7_lay 17 = .ok (.putfield 75, 3) := by decide +kernel
theorem dX7_lay_20 : decode cX7_lay 20 = .ok (.aload_n 1, 1) := by decide +kernel
theorem dX7_lay_21 : decode cX7_lay 21 = .ok (.aload_n 1, 1) := by decide +kernel
theorem dX7_lay_22 : decode cX7_lay 22 = .ok (.getfield 75, 3) := by decide +kernel
theorem dX7_lay_25 : decode cX7_lay 25 = .ok (.iconst (-1), 1) := by decide +kernel
theorem dX7_lay_26 : decode cX7_lay 26 = .ok (.if_icmp .ne 7, 3) := by decide +kernel
theorem dX7_lay_29 : decode cX7_lay 29 = .ok (.iconst (-1), 1) := by decide +kernel
theorem dX7_lay_30 : decode cX7_lay 30 = .ok (.goto 18, 3) := by decide +kernel
theorem dX7_lay_33 : decode cX7_lay 33 = .ok (.aload_n 0, 1) := by decide +kernel
theorem dX7_lay_34 : decode cX7_lay 34 = .ok (.getfield 12, 3) := by decide +kernel
theorem dX7_lay_37 : decode cX7_lay 37 = .ok (.aload_n 1, 1) := by decide +kernel
theorem dX7_lay_38 : decode cX7_lay 38 = .ok (.getfield 75, 3) := by decide +kernel
theorem dX7_lay_41 : decode cX7_lay 41 = .ok (.aload_n 1, 1) := by decide +kernel
theorem dX7_lay_42 : decode cX7_lay 42 = .ok (.getfield 72, 3) := by decide +kernel
theorem dX7_lay_45 : decode cX7_lay 45 = .ok (.invokevirtual 85, 3) := by decide +kernel
theorem dX7_lay_48 : decode cX7_lay 48 = .ok (.putfield 78, 3) := by decide +kernel
theorem dX7_lay_51 : decode cX7_lay 51 = .ok (.return_, 1) := by decide +kernel
theorem dX7_layAll_0 : decode cX7_layAll 0 = .ok (.iconst 0, 1) := by decide +kernel
theorem dX7_layAll_1 : decode cX7_layAll 1 = .ok (.istore_n 1, 1) := by decide +kernel
theorem dX7_layAll_2 : decode cX7_layAll 2 = .ok (.iload_n 1, 1) := by decide +kernel
theorem dX7_layAll_3 : decode cX7_layAll 3 = .ok (.bipush 16, 2) := by decide +kernel
theorem dX7_layAll_5 : decode cX7_layAll 5 = .ok (.if_icmp .ge 24, 3) := by decide +kernel
theorem dX7_layAll_8 : decode cX7_layAll 8 = .ok (.aload_n 0, 1) := by decide +kernel
theorem dX7_layAll_9 : decode cX7_layAll 9 = .ok (.iload_n 1, 1) := by decide +kernel
theorem dX7_layAll_10 : decode cX7_layAll 10 = .ok (.invokevirtual 69, 3) := by decide +kernel
theorem dX7_layAll_13 : decode cX7_layAll 13 = .ok (.astore_n 2, 1) := by decide +kernel
theorem dX7_layAll_14 : decode cX7_layAll 14 = .ok (.aload_n 2, 1) := by decide +kernel
theorem dX7_layAll_15 : decode cX7_layAll 15 = .ok (.ifnull 8, 3) := by decide +kernel
theorem dX7_layAll_18 : decode cX7_layAll 18 = .ok (.aload_n 0, 1) := by decide +kernel
theorem dX7_layAll_19 : decode cX7_layAll 19 = .ok (.aload_n 2, 1) := by decide +kernel
theorem dX7_layAll_20 : decode cX7_layAll 20 = .ok (.invokevirtual 89, 3) := by decide +kernel
theorem dX7_layAll_23 : decode cX7_layAll 23 = .ok (.iinc 1 1, 3) := by decide +kernel
theorem dX7_layAll_26 : decode cX7_layAll 26 = .ok (.goto (-24), 3) := by decide +kernel
theorem dX7_layAll_29 : decode cX7_layAll 29 = .ok (.return_, 1) := by decide +kernel
theorem dX7_pause_0 : decode cX7_pause 0 = .ok (.aload_n 1, 1) := by decide +kernel
theorem dX7_pause_1 : decode cX7_pause 1 = .ok (.iconst 1, 1) := by decide +kernel
theorem dX7_pause_2 : decode cX7_pause 2 = .ok (.putfield 66, 3) := by decide +kernel
theorem dX7_pause_5 : decode cX7_pause 5 = .ok (.aload_n 1, 1) := by decide +kernel
theorem dX7_pause_6 : decode cX7_pause 6 = .ok (.aload_n 1, 1) := by decide +kernel
theorem dX7_pause_7 : decode cX7_pause 7 = .ok (.getfield 72, 3) := by decide +kernel
theorem dX7_pause_10 : decode cX7_pause 10 = .ok (.aload_n 0, 1) := by decide +kernel
theorem dX7_pause_11 : decode cX7_pause 11 = .ok (.getfield 45, 3) := by decide +kernel
theorem dX7_pause_14 : decode cX7_pause 14 = .ok (.isub, 1) := by decide +kernel
theorem dX7_pause_15 : decode cX7_pause 15 = .ok (.putfield 92, 3) := by decide +kernel
theorem dX7_pause_18 : decode cX7_pause 18 = .ok (.aload_n 1, 1) := by decide +kernel
theorem dX7_pause_19 : decode cX7_pause 19 = .ok (.bipush (-2), 2) := by decide +kernel
theorem dX7_pause_21 : decode cX7_pause 21 = .ok (.putfield 75, 3) := by decide +kernel
theorem dX7_pause_24 : decode cX7_pause 24 = .ok (.aload_n 1, 1) := by decide +kernel
theorem dX7_pause_25 : decode cX7_pause 25 = .ok (.bipush (-2), 2) := by decide +kernel
theorem dX7_pause_27 : decode cX7_pause 27 = .ok (.putfield 78, 3) := by decide +kernel
theorem dX7_pause_30 : decode cX7_pause 30 = .ok (.return_, 1) := by decide +kernel
theorem dX7_resume_0 : decode cX7_resume 0 = .ok (.aload_n 1, 1) := by decide +kernel
theorem dX7_resume_1 : decode cX7_resume 1 = .ok (.iconst 0, 1) := by decide +kernel
theorem dX7_resume_2 : decode cX7_resume 2 = .ok (.putfield 66, 3) := by decide +kernel
theorem dX7_resume_5 : decode cX7_resume 5 = .ok (.aload_n 1, 1) := by decide +kernel
theorem dX7_resume_6 : decode cX7_resume 6 = .ok (.aload_n 0, 1) := by decide +kernel
theorem dX7_resume_7 : decode cX7_resume 7 = .ok (.getfield 45, 3) := by decide +kernel
theorem dX7_resume_10 : decode cX7_resume 10 = .ok (.aload_n 1, 1) := by decide +kernel
theorem dX7_resume_11 : decode cX7_resume 11 = .ok (.getfield 92, 3) := by decide +kernel
theorem dX7_resume_14 : decode cX7_resume 14 = .ok (.iadd, 1) := by decide +kernel
theorem dX7_resume_15 : decode cX7_resume 15 = .ok (.putfield 72, 3) := by decide +kernel
theorem dX7_resume_18 : decode cX7_resume 18 = .ok (.aload_n 0, 1) := by decide +kernel
theorem dX7_resume_19 : decode cX7_resume 19 = .ok (.aload_n 1, 1) := by decide +kernel
theorem dX7_resume_20 : decode cX7_resume 20 = .ok (.invokevirtual 89, 3) := by decide +kernel
theorem dX7_resume_23 : decode cX7_resume 23 = .ok (.return_, 1) := by decide +kernel
theorem dX7_tick_0 : decode cX7_tick 0 = .ok (.aload_n 0, 1) := by decide +kernel
theorem dX7_tick_1 : decode cX7_tick 1 = .ok (.dup, 1) := by decide +kernel
theorem dX7_tick_2 : decode cX7_tick 2 = .ok (.getfield 45, 3) := by decide +kernel
theorem dX7_tick_5 : decode cX7_tick 5 = .ok (.iconst 1, 1) := by decide +kernel
theorem dX7_tick_6 : decode cX7_tick 6 = .ok (.iadd, 1) := by decide +kernel
theorem dX7_tick_7 : decode cX7_tick 7 = .ok (.putfield 45, 3) := by decide +kernel
theorem dX7_tick_10 : decode cX7_tick 10 = .ok (.aload_n 0, 1) := by decide +kernel
theorem dX7_tick_11 : decode cX7_tick 11 = .ok (.getfield 45, 3) := by decide +kernel
theorem dX7_tick_14 : decode cX7_tick 14 = .ok (.aload_n 0, 1) := by decide +kernel
theorem dX7_tick_15 : decode cX7_tick 15 = .ok (.getfield 12, 3) := by decide +kernel
theorem dX7_tick_18 : decode cX7_tick 18 = .ok (.getfield 95, 3) := by decide +kernel
theorem dX7_tick_21 : decode cX7_tick 21 = .ok (.invokestatic 98, 3) := by decide +kernel
theorem dX7_tick_24 : decode cX7_tick 24 = .ok (.ifCond .eq 7, 3) := by decide +kernel
theorem dX7_tick_27 : decode cX7_tick 27 = .ok (.aload_n 0, 1) := by decide +kernel
theorem dX7_tick_28 : decode cX7_tick 28 = .ok (.invokevirtual 102, 3) := by decide +kernel
theorem dX7_tick_31 : decode cX7_tick 31 = .ok (.aload_n 0, 1) := by decide +kernel
theorem dX7_tick_32 : decode cX7_tick 32 = .ok (.getfield 12, 3) := by decide +kernel
theorem dX7_tick_35 : decode cX7_tick 35 = .ok (.getfield 105, 3) := by decide +kernel
theorem dX7_tick_38 : decode cX7_tick 38 = .ok (.iconst 1, 1) := by decide +kernel
theorem dX7_tick_39 : decode cX7_tick 39 = .ok (.isub, 1) := by decide +kernel
theorem dX7_tick_40 : decode cX7_tick 40 = .ok (.istore_n 1, 1) := by decide +kernel
theorem dX7_tick_41 : decode cX7_tick 41 = .ok (.iload_n 1, 1) := by decide +kernel
theorem dX7_tick_42 : decode cX7_tick 42 = .ok (.ifCond .le 44, 3) := by decide +kernel
theorem dX7_tick_45 : decode cX7_tick 45 = .ok (.aload_n 0, 1) := by decide +kernel
theorem dX7_tick_46 : decode cX7_tick 46 = .ok (.getfield 45, 3) := by decide +kernel
theorem dX7_tick_49 : decode cX7_tick 49 = .ok (.aload_n 0, 1) := by decide +kernel
theorem dX7_tick_50 : decode cX7_tick 50 = .ok (.getfield 12, 3) := by decide +kernel
theorem dX7_tick_53 : decode cX7_tick 53 = .ok (.iload_n 1, 1) := by decide +kernel
theorem dX7_tick_54 : decode cX7_tick 54 = .ok (.invokevirtual 108, 3) := by decide +kernel
theorem dX7_tick_57 : decode cX7_tick 57 = .ok (.invokestatic 98, 3) := by decide +kernel
theorem dX7_tick_60 : decode cX7_tick 60 = .ok (.ifCond .eq 20, 3) := by decide +kernel
theorem dX7_tick_63 : decode cX7_tick 63 = .ok (.aload_n 0, 1) := by decide +kernel
theorem dX7_tick_64 : decode cX7_tick 64 = .ok (.iload_n 1, 1) := by decide +kernel
theorem dX7_tick_65 : decode cX7_tick 65 = .ok (.aload_n 0, 1) := by decide +kernel
theorem dX7_tick_66 : decode cX7_tick 66 = .ok (.getfield 12, 3) := by decide +kernel
theorem dX7_tick_69 : decode cX7_tick 69 = .ok (.iload_n 1, 1) := by decide +kernel
theorem dX7_tick_70 : decode cX7_tick 70 = .ok (.aload_n 0, 1) := by decide +kernel
theorem dX7_tick_71 : decode cX7_tick 71 = .ok (.getfield 45, 3) := by decide +kernel
theorem dX7_tick_74 : decode cX7_tick 74 = .ok (.invokevirtual 85, 3) := by decide +kernel
theorem dX7_tick_77 : decode cX7_tick 77 = .ok (.invokevirtual 111, 3) := by decide +kernel
theorem dX7_tick_80 : decode cX7_tick 80 = .ok (.iinc 1 (-1), 3) := by decide +kernel
theorem dX7_tick_83 : decode cX7_tick 83 = .ok (.goto (-42), 3) := by decide +kernel
theorem dX7_tick_86 : decode cX7_tick 86 = .ok (.aload_n 0, 1) := by decide +kernel
theorem dX7_tick_87 : decode cX7_tick 87 = .ok (.getfield 12, 3) := by decide +kernel
theorem dX7_tick_90 : decode cX7_tick 90 = .ok (.iconst 0, 1) := by decide +kernel
theorem dX7_tick_91 : decode cX7_tick 91 = .ok (.aload_n 0, 1) := by decide +kernel
theorem dX7_tick_92 : decode cX7_tick 92 = .ok (.getfield 45, 3) := by decide +kernel
theorem dX7_tick_95 : decode cX7_tick 95 = .ok (.invokevirtual 85, 3) := by decide +kernel
theorem dX7_tick_98 : decode cX7_tick 98 = .ok (.istore_n 1, 1) := by decide +kernel
theorem dX7_tick_99 : decode cX7_tick 99 = .ok (.aload_n 0, 1) := by decide +kernel
theorem dX7_tick_100 : decode cX7_tick 100 = .ok (.getfield 27, 3) := by decide +kernel
theorem dX7_tick_103 : decode cX7_tick 103 = .ok (.invokevirtual 115, 3) := by decide +kernel
theorem dX7_tick_106 : decode cX7_tick 106 = .ok (.iconst 0, 1) := by decide +kernel
theorem dX7_tick_107 : decode cX7_tick 107 = .ok (.istore_n 2, 1) := by decide +kernel
theorem dX7_tick_108 : decode cX7_tick 108 = .ok (.iload_n 2, 1) := by decide +kernel
theorem dX7_tick_109 : decode cX7_tick 109 = .ok (.bipush 16, 2) := by decide +kernel
theorem dX7_tick_111 : decode cX7_tick 111 = .ok (.if_icmp .ge 47, 3) := by decide +kernel
theorem dX7_tick_114 : decode cX7_tick 114 = .ok (.aload_n 0, 1) := by decide +kernel
theorem dX7_tick_115 : decode cX7_tick 115 = .ok (.iload_n 2, 1) := by decide +kernel
theorem dX7_tick_116 : decode cX7_tick 116 = .ok (.invokevirtual 62, 3) := by decide +kernel
theorem dX7_tick_119 : decode cX7_tick 119 = .ok (.astore_n 3, 1) := by decide +kernel
theorem dX7_tick_120 : decode cX7_tick 120 = .ok (.aload_n 3, 1) := by decide +kernel
theorem dX7_tick_121 : decode cX7_tick 121 = .ok (.ifnull 31, 3) := by decide +kernel
theorem dX7_tick_124 : decode cX7_tick 124 = .ok (.aload_n 3, 1) := by decide +kernel
theorem dX7_tick_125 : decode cX7_tick 125 = .ok (.getfield 75, 3) := by decide +kernel
theorem dX7_tick_128 : decode cX7_tick 128 = .ok (.ifCond .ne 24, 3) := by decide +kernel
theorem dX7_tick_131 : decode cX7_tick 131 = .ok (.aload_n 3, 1) := by decide +kernel
theorem dX7_tick_132 : decode cX7_tick 132 = .ok (.getfield 78, 3) := by decide +kernel
theorem dX7_tick_135 : decode cX7_tick 135 = .ok (.iload_n 1, 1) := by decide +kernel
theorem dX7_tick_136 : decode cX7_tick 136 = .ok (.if_icmp .ne 16, 3) := by decide +kernel
theorem dX7_tick_139 : decode cX7_tick 139 = .ok (.aload_n 0, 1) := by decide +kernel
theorem dX7_tick_140 : decode cX7_tick 140 = .ok (.getfield 27, 3) := by decide +kernel
theorem dX7_tick_143 : decode cX7_tick 143 = .ok (.aload_n 3, 1) := by decide +kernel
theorem dX7_tick_144 : decode cX7_tick 144 = .ok (.iconst 0, 1) := by decide +kernel
theorem dX7_tick_145 : decode cX7_tick 145 = .ok (.aload_n 0, 1) := by decide +kernel
theorem dX7_tick_146 : decode cX7_tick 146 = .ok (.getfield 49, 3) := by decide +kernel
theorem dX7_tick_149 : decode cX7_tick 149 = .ok (.invokevirtual 118, 3) := by decide +kernel
theorem dX7_tick_152 : decode cX7_tick 152 = .ok (.iinc 2 1, 3) := by decide +kernel
theorem dX7_tick_155 : decode cX7_tick 155 = .ok (.goto (-47), 3) := by decide +kernel
theorem dX7_tick_158 : decode cX7_tick 158 = .ok (.aload_n 0, 1) := by decide +kernel
theorem dX7_tick_159 : decode cX7_tick 159 = .ok (.invokevirtual 122, 3) := by decide +kernel
theorem dX7_tick_162 : decode cX7_tick 162 = .ok (.return_, 1) := by decide +kernel
theorem dX7_leap_0 : decode cX7_leap 0 = .ok (.aload_n 0, 1) := by decide +kernel
theorem dX7_leap_1 : decode cX7_leap 1 = .ok (.dup, 1) := by decide +kernel
theorem dX7_leap_2 : decode cX7_leap 2 = .ok (.getfield 45, 3) := by decide +kernel
theorem dX7_leap_5 : decode cX7_leap 5 = .ok (.iload_n 1, 1) := by decide +kernel
theorem dX7_leap_6 : decode cX7_leap 6 = .ok (.iadd, 1) := by decide +kernel
theorem dX7_leap_7 : decode cX7_leap 7 = .ok (.putfield 45, 3) := by decide +kernel
theorem dX7_leap_10 : decode cX7_leap 10 = .ok (.aload_n 0, 1) := by decide +kernel
theorem dX7_leap_11 : decode cX7_leap 11 = .ok (.getfield 27, 3) := by decide +kernel
theorem dX7_leap_14 : decode cX7_leap 14 = .ok (.invokevirtual 115, 3) := by decide +kernel
theorem dX7_leap_17 : decode cX7_leap 17 = .ok (.iconst 0, 1) := by decide +kernel
theorem dX7_leap_18 : decode cX7_leap 18 = .ok (.istore_n 2, 1) := by decide +kernel
theorem dX7_leap_19 : decode cX7_leap 19 = .ok (.iload_n 2, 1) := by decide +kernel
theorem dX7_leap_20 : decode cX7_leap 20 = .ok (.bipush 16, 2) := by decide +kernel
theorem dX7_leap_22 : decode cX7_leap 22 = .ok (.if_icmp .ge 67, 3) := by decide +kernel
theorem dX7_leap_25 : decode cX7_leap 25 = .ok (.aload_n 0, 1) := by decide +kernel
theorem dX7_leap_26 : decode cX7_leap 26 = .ok (.iload_n 2, 1) := by decide +kernel
theorem dX7_leap_27 : decode cX7_leap 27 = .ok (.invokevirtual 69, 3) := by decide +kernel
theorem dX7_leap_30 : decode cX7_leap 30 = .ok (.astore_n 3, 1) := by decide +kernel
theorem dX7_leap_31 : decode cX7_leap 31 = .ok (.aload_n 3, 1) := by decide +kernel
theorem dX7_leap_32 : decode cX7_leap 32 = .ok (.ifnull 23, 3) := by decide +kernel
theorem dX7_leap_35 : decode cX7_leap 35 = .ok (.aload_n 3, 1) := by decide +kernel
theorem dX7_leap_36 : decode cX7_leap 36 = .ok (.getfield 125, 3) := by decide +kernel
theorem dX7_leap_39 : decode cX7_leap 39 = .ok (.ifCond .eq 16, 3) := by decide +kernel
theorem dX7_leap_42 : decode cX7_leap 42 = .ok (.aload_n 3, 1) := by decide +kernel
theorem dX7_leap_43 : decode cX7_leap 43 = .ok (.dup, 1) := by decide +kernel
theorem dX7_leap_44 : decode cX7_leap 44 = .ok (.getfield 72, 3) := by decide +kernel
theorem dX7_leap_47 : decode cX7_leap 47 = .ok (.iload_n 1, 1) := by decide +kernel
theorem dX7_leap_48 : decode cX7_leap 48 = .ok (.iadd, 1) := by decide +kernel
theorem dX7_leap_49 : decode cX7_leap 49 = .ok (.putfield 72, 3) := by decide +kernel
theorem dX7_leap_52 : decode cX7_leap 52 = .ok (.goto 31, 3) := by decide +kernel
theorem dX7_leap_55 : decode cX7_leap 55 = .ok (.aload_n 3, 1) := by decide +kernel
theorem dX7_leap_56 : decode cX7_leap 56 = .ok (.ifnull 27, 3) := by decide +kernel
theorem dX7_leap_59 : decode cX7_leap 59 = .ok (.aload_n 3, 1) := by decide +kernel
theorem dX7_leap_60 : decode cX7_leap 60 = .ok (.getfield 72, 3) := by decide +kernel
theorem dX7_leap_63 : decode cX7_leap 63 = .ok (.aload_n 0, 1) := by decide +kernel
theorem dX7_leap_64 : decode cX7_leap 64 = .ok (.getfield 45, 3) := by decide +kernel
theorem dX7_leap_67 : decode cX7_leap 67 = .ok (.if_icmp .gt 16, 3) := by decide +kernel
theorem dX7_leap_70 : decode cX7_leap 70 = .ok (.aload_n 0, 1) := by decide +kernel
theorem dX7_leap_71 : decode cX7_leap 71 = .ok (.getfield 27, 3) := by decide +kernel
theorem dX7_leap_74 : decode cX7_leap 74 = .ok (.aload_n 3, 1) := by decide +kernel
theorem dX7_leap_75 : decode cX7_leap 75 = .ok (.iconst 1, 1) := by decide +kernel
theorem dX7_leap_76 : decode cX7_leap 76 = .ok (.aload_n 0, 1) := by decide +kernel
theorem dX7_leap_77 : decode cX7_leap 77 = .ok (.getfield 49, 3) := by decide +kernel
theorem dX7_leap_80 : decode cX7_leap 80 = .ok (.invokevirtual 118, 3) := by decide +kernel
theorem dX7_leap_83 : decode cX7_leap 83 = .ok (.iinc 2 1, 3) := by decide +kernel
theorem dX7_leap_86 : decode cX7_leap 86 = .ok (.goto (-67), 3) := by decide +kernel
theorem dX7_leap_89 : decode cX7_leap 89 = .ok (.aload_n 0, 1) := by decide +kernel
theorem dX7_leap_90 : decode cX7_leap 90 = .ok (.invokevirtual 122, 3) := by decide +kernel
theorem dX7_leap_93 : decode cX7_leap 93 = .ok (.aload_n 0, 1) := by decide +kernel
theorem dX7_leap_94 : decode cX7_leap 94 = .ok (.invokevirtual 128, 3) := by decide +kernel
theorem dX7_leap_97 : decode cX7_leap 97 = .ok (.return_, 1) := by decide +kernel
theorem dX7_bringFarOnes_0 : decode cX7_bringFarOnes 0 = .ok (.iconst 0, 1) := by decide +kernel
theorem dX7_bringFarOnes_1 : decode cX7_bringFarOnes 1 = .ok (.istore_n 1, 1) := by decide +kernel
theorem dX7_bringFarOnes_2 : decode cX7_bringFarOnes 2 = .ok (.iload_n 1, 1) := by decide +kernel
theorem dX7_bringFarOnes_3 : decode cX7_bringFarOnes 3 = .ok (.bipush 16, 2) := by decide +kernel
theorem dX7_bringFarOnes_5 : decode cX7_bringFarOnes 5 = .ok (.if_icmp .ge 61, 3) := by decide +kernel
theorem dX7_bringFarOnes_8 : decode cX7_bringFarOnes 8 = .ok (.aload_n 0, 1) := by decide +kernel
theorem dX7_bringFarOnes_9 : decode cX7_bringFarOnes 9 = .ok (.iload_n 1, 1) := by decide +kernel
theorem dX7_bringFarOnes_10 : decode cX7_bringFarOnes 10 = .ok (.invokevirtual 62, 3) := by decide +kernel
theorem dX7_bringFarOnes_13 : decode cX7_bringFarOnes 13 = .ok (.astore_n 2, 1) := by decide +kernel
theorem dX7_bringFarOnes_14 : decode cX7_bringFarOnes 14 = .ok (.aload_n 2, 1) := by decide +kernel
theorem dX7_bringFarOnes_15 : decode cX7_bringFarOnes 15 = .ok (.ifnull 45, 3) := by decide +kernel
theorem dX7_bringFarOnes_18 : decode cX7_bringFarOnes 18 = .ok (.aload_n 2, 1) := by decide +kernel
theorem dX7_bringFarOnes_19 : decode cX7_bringFarOnes 19 = .ok (.getfield 75, 3) := by decide +kernel
theorem dX7_bringFarOnes_22 : decode cX7_bringFarOnes 22 = .ok (.iconst (-1), 1) := by decide +kernel
theorem dX7_bringFarOnes_23 : decode cX7_bringFarOnes 23 = .ok (.if_icmp .ne 37, 3) := by decide +kernel
theorem dX7_bringFarOnes_26 : decode cX7_bringFarOnes 26 = .ok (.aload_n 2, 1) := by decide +kernel
theorem dX7_bringFarOnes_27 : decode cX7_bringFarOnes 27 = .ok (.getfield 72, 3) := by decide +kernel
theorem dX7_bringFarOnes_30 : decode cX7_bringFarOnes 30 = .ok (.aload_n 0, 1) := by decide +kernel
theorem dX7_bringFarOnes_31 : decode cX7_bringFarOnes 31 = .ok (.getfield 45, 3) := by decide +kernel
theorem dX7_bringFarOnes_34 : decode cX7_bringFarOnes 34 = .ok (.isub, 1) := by decide +kernel
theorem dX7_bringFarOnes_35 : decode cX7_bringFarOnes 35 = .ok (.aload_n 0, 1) := by decide +kernel
theorem dX7_bringFarOnes_36 : decode cX7_bringFarOnes 36 = .ok (.getfield 12, 3) := by decide +kernel
theorem dX7_bringFarOnes_39 : decode cX7_bringFarOnes 39 = .ok (.getfield 95, 3) := by decide +kernel
theorem dX7_bringFarOnes_42 : decode cX7_bringFarOnes 42 = .ok (.if_icmp .ge 18, 3) := by decide +kernel
theorem dX7_bringFarOnes_45 : decode cX7_bringFarOnes 45 = .ok (.aload_n 0, 1) := by decide +kernel
theorem dX7_bringFarOnes_46 : decode cX7_bringFarOnes 46 = .ok (.aload_n 2, 1) := by decide +kernel
theorem dX7_bringFarOnes_47 : decode cX7_bringFarOnes 47 = .ok (.invokevirtual 89, 3) := by decide +kernel
theorem dX7_bringFarOnes_50 : decode cX7_bringFarOnes 50 = .ok (.aload_n 0, 1) := by decide +kernel
theorem dX7_bringFarOnes_51 : decode cX7_bringFarOnes 51 = .ok (.dup, 1) := by decide +kernel
theorem dX7_bringFarOnes_52 : decode cX7_bringFarOnes 52 = .ok (.getfield 52, 3) := by decide +kernel
theorem dX7_bringFarOnes_55 : decode cX7_bringFarOnes 55 = .ok (.iconst 1, 1) := by decide +kernel
theorem dX7_bringFarOnes_56 : decode cX7_bringFarOnes 56 = .ok (.iadd, 1) := by decide +kernel
theorem dX7_bringFarOnes_57 : decode cX7_bringFarOnes 57 = .ok (.putfield 52, 3) := by decide +kernel
theorem dX7_bringFarOnes_60 : decode cX7_bringFarOnes 60 = .ok (.iinc 1 1, 3) := by decide +kernel
theorem dX7_bringFarOnes_63 : decode cX7_bringFarOnes 63 = .ok (.goto (-61), 3) := by decide +kernel
theorem dX7_bringFarOnes_66 : decode cX7_bringFarOnes 66 = .ok (.return_, 1) := by decide +kernel
theorem dX7_moveFrom_0 : decode cX7_moveFrom 0 = .ok (.iconst 0, 1) := by decide +kernel
theorem dX7_moveFrom_1 : decode cX7_moveFrom 1 = .ok (.istore_n 3, 1) := by decide +kernel
theorem dX7_moveFrom_2 : decode cX7_moveFrom 2 = .ok (.iload_n 3, 1) := by decide +kernel
theorem dX7_moveFrom_3 : decode cX7_moveFrom 3 = .ok (.bipush 16, 2) := by decide +kernel
theorem dX7_moveFrom_5 : decode cX7_moveFrom 5 = .ok (.if_icmp .ge 55, 3) := by decide +kernel
theorem dX7_moveFrom_8 : decode cX7_moveFrom 8 = .ok (.aload_n 0, 1) := by decide +kernel
theorem dX7_moveFrom_9 : decode cX7_moveFrom 9 = .ok (.iload_n 3, 1) := by decide +kernel
theorem dX7_moveFrom_10 : decode cX7_moveFrom 10 = .ok (.invokevirtual 62, 3) := by decide +kernel
theorem dX7_moveFrom_13 : decode cX7_moveFrom 13 = .ok (.astore 4, 2) := by decide +kernel
theorem dX7_moveFrom_15 : decode cX7_moveFrom 15 = .ok (.aload 4, 2) := by decide +kernel
theorem dX7_moveFrom_17 : decode cX7_moveFrom 17 = .ok (.ifnull 37, 3) := by decide +kernel
theorem dX7_moveFrom_20 : decode cX7_moveFrom 20 = .ok (.aload 4, 2) := by decide +kernel
theorem dX7_moveFrom_22 : decode cX7_moveFrom 22 = .ok (.getfield 75, 3) := by decide +kernel
theorem dX7_moveFrom_25 : decode cX7_moveFrom 25 = .ok (.iload_n 1, 1) := by decide +kernel
theorem dX7_moveFrom_26 : decode cX7_moveFrom 26 = .ok (.if_icmp .ne 28, 3) := by decide +kernel
theorem dX7_moveFrom_29 : decode cX7_moveFrom 29 = .ok (.aload 4, 2) := by decide +kernel
theorem dX7_moveFrom_31 : decode cX7_moveFrom 31 = .ok (.getfield 78, 3) := by decide +kernel
theorem dX7_moveFrom_34 : decode cX7_moveFrom 34 = .ok (.iload_n 2, 1) := by decide +kernel
theorem dX7_moveFrom_35 : decode cX7_moveFrom 35 = .ok (.if_icmp .ne 19, 3) := by decide +kernel
theorem dX7_moveFrom_38 : decode cX7_moveFrom 38 = .ok (.aload_n 0, 1) := by decide +kernel
theorem dX7_moveFrom_39 : decode cX7_moveFrom 39 = .ok (.aload 4, 2) := by decide +kernel
theorem dX7_moveFrom_41 : decode cX7_moveFrom 41 = .ok (.invokevirtual 89, 3) := by decide +kernel
theorem dX7_moveFrom_44 : decode cX7_moveFrom 44 = .ok (.aload_n 0, 1) := by decide +kernel
theorem dX7_moveFrom_45 : decode cX7_moveFrom 45 = .ok (.dup, 1) := by decide +kernel
theorem dX7_moveFrom_46 : decode cX7_moveFrom 46 = .ok (.getfield 52, 3) := by decide +kernel
theorem dX7_moveFrom_49 : decode cX7_moveFrom 49 = .ok (.iconst 1, 1) := by decide +kernel
theorem dX7_moveFrom_50 : decode cX7_moveFrom 50 = .ok (.iadd, 1) := by decide +kernel
theorem dX7_moveFrom_51 : decode cX7_moveFrom 51 = .ok (.putfield 52, 3) := by decide +kernel
theorem dX7_moveFrom_54 : decode cX7_moveFrom 54 = .ok (.iinc 3 1, 3) := by decide +kernel
theorem dX7_moveFrom_57 : decode cX7_moveFrom 57 = .ok (.goto (-55), 3) := by decide +kernel
theorem dX7_moveFrom_60 : decode cX7_moveFrom 60 = .ok (.return_, 1) := by decide +kernel
theorem dX7_ringLine_0 : decode cX7_ringLine 0 = .ok (.iconst 0, 1) := by decide +kernel
theorem dX7_ringLine_1 : decode cX7_ringLine 1 = .ok (.istore_n 1, 1) := by decide +kernel
theorem dX7_ringLine_2 : decode cX7_ringLine 2 = .ok (.iload_n 1, 1) := by decide +kernel
theorem dX7_ringLine_3 : decode cX7_ringLine 3 = .ok (.aload_n 0, 1) := by decide +kernel
theorem dX7_ringLine_4 : decode cX7_ringLine 4 = .ok (.getfield 27, 3) := by decide +kernel
theorem dX7_ringLine_7 : decode cX7_ringLine 7 = .ok (.getfield 131, 3) := by decide +kernel
theorem dX7_ringLine_10 : decode cX7_ringLine 10 = .ok (.if_icmp .ge 27, 3) := by decide +kernel
theorem dX7_ringLine_13 : decode cX7_ringLine 13 = .ok (.aload_n 0, 1) := by decide +kernel
theorem dX7_ringLine_14 : decode cX7_ringLine 14 = .ok (.getfield 27, 3) := by decide +kernel
theorem dX7_ringLine_17 : decode cX7_ringLine 17 = .ok (.iload_n 1, 1) := by decide +kernel
theorem dX7_ringLine_18 : decode cX7_ringLine 18 = .ok (.invokevirtual 134, 3) := by decide +kernel
theorem dX7_ringLine_21 : decode cX7_ringLine 21 = .ok (.astore_n 2, 1) := by decide +kernel
theorem dX7_ringLine_22 : decode cX7_ringLine 22 = .ok (.aload_n 2, 1) := by decide +kernel
theorem dX7_ringLine_23 : decode cX7_ringLine 23 = .ok (.ifnull 8, 3) := by decide +kernel
theorem dX7_ringLine_26 : decode cX7_ringLine 26 = .ok (.aload_n 0, 1) := by decide +kernel
theorem dX7_ringLine_27 : decode cX7_ringLine 27 = .ok (.aload_n 2, 1) := by decide +kernel
theorem dX7_ringLine_28 : decode cX7_ringLine 28 = .ok (.invokevirtual 137, 3) := by decide +kernel
theorem dX7_ringLine_31 : decode cX7_ringLine 31 = .ok (.iinc 1 1, 3) := by decide +kernel
theorem dX7_ringLine_34 : decode cX7_ringLine 34 = .ok (.goto (-32), 3) := by decide +kernel
theorem dX7_ringLine_37 : decode cX7_ringLine 37 = .ok (.iconst 0, 1) := by decide +kernel
theorem dX7_ringLine_38 : decode cX7_ringLine 38 = .ok (.istore_n 1, 1) := by decide +kernel
theorem dX7_ringLine_39 : decode cX7_ringLine 39 = .ok (.iload_n 1, 1) := by decide +kernel
theorem dX7_ringLine_40 : decode cX7_ringLine 40 = .ok (.aload_n 0, 1) := by decide +kernel
theorem dX7_ringLine_41 : decode cX7_ringLine 41 = .ok (.getfield 27, 3) := by decide +kernel
theorem dX7_ringLine_44 : decode cX7_ringLine 44 = .ok (.getfield 131, 3) := by decide +kernel
theorem dX7_ringLine_47 : decode cX7_ringLine 47 = .ok (.if_icmp .ge 34, 3) := by decide +kernel
theorem dX7_ringLine_50 : decode cX7_ringLine 50 = .ok (.aload_n 0, 1) := by decide +kernel
theorem dX7_ringLine_51 : decode cX7_ringLine 51 = .ok (.getfield 27, 3) := by decide +kernel
theorem dX7_ringLine_54 : decode cX7_ringLine 54 = .ok (.iload_n 1, 1) := by decide +kernel
theorem dX7_ringLine_55 : decode cX7_ringLine 55 = .ok (.invokevirtual 134, 3) := by decide +kernel
theorem dX7_ringLine_58 : decode cX7_ringLine 58 = .ok (.astore_n 2, 1) := by decide +kernel
theorem dX7_ringLine_59 : decode cX7_ringLine 59 = .ok (.aload_n 2, 1) := by decide +kernel
theorem dX7_ringLine_60 : decode cX7_ringLine 60 = .ok (.ifnull 15, 3) := by decide +kernel
theorem dX7_ringLine_63 : decode cX7_ringLine 63 = .ok (.aload_n 2, 1) := by decide +kernel
theorem dX7_ringLine_64 : decode cX7_ringLine 64 = .ok (.getfield 58, 3) := by decide +kernel
theorem dX7_ringLine_67 : decode cX7_ringLine 67 = .ok (.ifCond .eq 8, 3) := by decide +kernel
theorem dX7_ringLine_70 : decode cX7_ringLine 70 = .ok (.aload_n 0, 1) := by decide +kernel
theorem dX7_ringLine_71 : decode cX7_ringLine 71 = .ok (.aload_n 2, 1) := by decide +kernel
theorem dX7_ringLine_72 : decode cX7_ringLine 72 = .ok (.invokevirtual 89, 3) := by decide +kernel
theorem dX7_ringLine_75 : decode cX7_ringLine 75 = .ok (.iinc 1 1, 3) := by decide +kernel
theorem dX7_ringLine_78 : decode cX7_ringLine 78 = .ok (.goto (-39), 3) := by decide +kernel
theorem dX7_ringLine_81 : decode cX7_ringLine 81 = .ok (.return_, 1) := by decide +kernel
theorem dX7_ring_0 : decode cX7_ring 0 = .ok (.aload_n 1, 1) := by decide +kernel
theorem dX7_ring_1 : decode cX7_ring 1 = .ok (.dup, 1) := by decide +kernel
theorem dX7_ring_2 : decode cX7_ring 2 = .ok (.getfield 140, 3) := by decide +kernel
theorem dX7_ring_5 : decode cX7_ring 5 = .ok (.iconst 1, 1) := by decide +kernel
theorem dX7_ring_6 : decode cX7_ring 6 = .ok (.iadd, 1) := by decide +kernel
theorem dX7_ring_7 : decode cX7_ring 7 = .ok (.putfield 140, 3) := by decide +kernel
theorem dX7_ring_10 : decode cX7_ring 10 = .ok (.aload_n 1, 1) := by decide +kernel
theorem dX7_ring_11 : decode cX7_ring 11 = .ok (.aload_n 1, 1) := by decide +kernel
theorem dX7_ring_12 : decode cX7_ring 12 = .ok (.getfield 72, 3) := by decide +kernel
theorem dX7_ring_15 : decode cX7_ring 15 = .ok (.putfield 143, 3) := by decide +kernel
theorem dX7_ring_18 : decode cX7_ring 18 = .ok (.aload_n 1, 1) := by decide +kernel
theorem dX7_ring_19 : decode cX7_ring 19 = .ok (.getfield 146, 3) := by decide +kernel
theorem dX7_ring_22 : decode cX7_ring 22 = .ok (.iconst 1, 1) := by decide +kernel
theorem dX7_ring_23 : decode cX7_ring 23 = .ok (.if_icmp .eq 10, 3) := by decide +kernel
theorem dX7_ring_26 : decode cX7_ring 26 = .ok (.aload_n 1, 1) := by decide +kernel
theorem dX7_ring_27 : decode cX7_ring 27 = .ok (.getfield 149, 3) := by decide +kernel
theorem dX7_ring_30 : decode cX7_ring 30 = .ok (.ifCond .ne 9, 3) := by decide +kernel
theorem dX7_ring_33 : decode cX7_ring 33 = .ok (.aload_n 1, 1) := by decide +kernel
theorem dX7_ring_34 : decode cX7_ring 34 = .ok (.iconst 0, 1) := by decide +kernel
theorem dX7_ring_35 : decode cX7_ring 35 = .ok (.putfield 58, 3) := by decide +kernel
theorem dX7_ring_38 : decode cX7_ring 38 = .ok (.return_, 1) := by decide +kernel
theorem dX7_ring_39 : decode cX7_ring 39 = .ok (.aload_n 1, 1) := by decide +kernel
theorem dX7_ring_40 : decode cX7_ring 40 = .ok (.getfield 146, 3) := by decide +kernel
theorem dX7_ring_43 : decode cX7_ring 43 = .ok (.ifCond .le 13, 3) := by decide +kernel
theorem dX7_ring_46 : decode cX7_ring 46 = .ok (.aload_n 1, 1) := by decide +kernel
theorem dX7_ring_47 : decode cX7_ring 47 = .ok (.dup, 1) := by decide +kernel
theorem dX7_ring_48 : decode cX7_ring 48 = .ok (.getfield 146, 3) := by decide +kernel
theorem dX7_ring_51 : decode cX7_ring 51 = .ok (.iconst 1, 1) := by decide +kernel
theorem dX7_ring_52 : decode cX7_ring 52 = .ok (.isub, 1) := by decide +kernel
theorem dX7_ring_53 : decode cX7_ring 53 = .ok (.putfield 146, 3) := by decide +kernel
theorem dX7_ring_56 : decode cX7_ring 56 = .ok (.aload_n 1, 1) := by decide +kernel
theorem dX7_ring_57 : decode cX7_ring 57 = .ok (.getfield 149, 3) := by decide +kernel
theorem dX7_ring_60 : decode cX7_ring 60 = .ok (.iconst 1, 1) := by decide +kernel
theorem dX7_ring_61 : decode cX7_ring 61 = .ok (.if_icmp .ne 9, 3) := by decide +kernel
theorem dX7_ring_64 : decode cX7_ring 64 = .ok (.aload_n 0, 1) := by decide +kernel
theorem dX7_ring_65 : decode cX7_ring 65 = .ok (.aload_n 1, 1) := by decide +kernel
theorem dX7_ring_66 : decode cX7_ring 66 = .ok (.invokevirtual 152, 3) := by decide +kernel
theorem dX7_ring_69 : decode cX7_ring 69 = .ok (.return_, 1) := by decide +kernel
theorem dX7_ring_70 : decode cX7_ring 70 = .ok (.aload_n 1, 1) := by decide +kernel
theorem dX7_ring_71 : decode cX7_ring 71 = .ok (.getfield 149, 3) := by decide +kernel
theorem dX7_ring_74 : decode cX7_ring 74 = .ok (.iconst 3, 1) := by decide +kernel
theorem dX7_ring_75 : decode cX7_ring 75 = .ok (.if_icmp .ne 19, 3) := by decide +kernel
theorem dX7_ring_78 : decode cX7_ring 78 = .ok (.aload_n 1, 1) := by decide +kernel
theorem dX7_ring_79 : decode cX7_ring 79 = .ok (.iconst 2, 1) := by decide +kernel
theorem dX7_ring_80 : decode cX7_ring 80 = .ok (.aload_n 1, 1) := by decide +kernel
theorem dX7_ring_81 : decode cX7_ring 81 = .ok (.getfield 155, 3) := by decide +kernel
theorem dX7_ring_84 : decode cX7_ring 84 = .ok (.imul, 1) := by decide +kernel
theorem dX7_ring_85 : decode cX7_ring 85 = .ok (.sipush 1000, 3) := by decide +kernel
theorem dX7_ring_88 : decode cX7_ring 88 = .ok (.invokestatic 158, 3) := by decide +kernel
theorem dX7_ring_91 : decode cX7_ring 91 = .ok (.putfield 155, 3) := by decide +kernel
theorem dX7_ring_94 : decode cX7_ring 94 = .ok (.aload_n 1, 1) := by decide +kernel
theorem dX7_ring_95 : decode cX7_ring 95 = .ok (.aload_n 0, 1) := by decide +kernel
theorem dX7_ring_96 : decode cX7_ring 96 = .ok (.getfield 45, 3) := by decide +kernel
theorem dX7_ring_99 : decode cX7_ring 99 = .ok (.aload_n 1, 1) := by decide +kernel
theorem dX7_ring_100 : decode cX7_ring 100 = .ok (.getfield 155, 3) := by decide +kernel
theorem dX7_ring_103 : decode cX7_ring 103 = .ok (.iadd, 1) := by decide +kernel
theorem dX7_ring_104 : decode cX7_ring 104 = .ok (.putfield 72, 3) := by decide +kernel
theorem dX7_ring_107 : decode cX7_ring 107 = .ok (.return_, 1) := by decide +kernel
theorem dX7_catchUp_0 : decode cX7_catchUp 0 = .ok (.aload_n 1, 1) := by decide +kernel
theorem dX7_catchUp_1 : decode cX7_catchUp 1 = .ok (.getfield 155, 3) := by decide +kernel
theorem dX7_catchUp_4 : decode cX7_catchUp 4 = .ok (.iconst 1, 1) := by decide +kernel
theorem dX7_catchUp_5 : decode cX7_catchUp 5 = .ok (.if_icmp .ge 7, 3) := by decide +kernel
theorem dX7_catchUp_8 : decode cX7_catchUp 8 = .ok (.iconst 0, 1) := by decide +kernel
theorem dX7_catchUp_9 : decode cX7_catchUp 9 = .ok (.goto 17, 3) := by decide +kernel
theorem dX7_catchUp_12 : decode cX7_catchUp 12 = .ok (.aload_n 0, 1) := by decide +kernel
theorem dX7_catchUp_13 : decode cX7_catchUp 13 = .ok (.getfield 45, 3) := by decide +kernel
theorem dX7_catchUp_16 : decode cX7_catchUp 16 = .ok (.aload_n 1, 1) := by decide +kernel
theorem dX7_catchUp_17 : decode cX7_catchUp 17 = .ok (.getfield 72, 3) := by decide +kernel
theorem dX7_catchUp_20 : decode cX7_catchUp 20 = .ok (.isub, 1) := by decide +kernel
theorem dX7_catchUp_21 : decode cX7_catchUp 21 = .ok (.aload_n 1, 1) := by decide +kernel
theorem dX7_catchUp_22 : decode cX7_catchUp 22 = .ok (.getfield 155, 3) := by decide +kernel
theorem dX7_catchUp_25 : decode cX7_catchUp 25 = .ok (.idiv, 1) := by decide +kernel
theorem dX7_catchUp_26 : decode cX7_catchUp 26 = .ok (.istore_n 2, 1) := by decide +kernel
theorem dX7_catchUp_27 : decode cX7_catchUp 27 = .ok (.aload_n 1, 1) := by decide +kernel
theorem dX7_catchUp_28 : decode cX7_catchUp 28 = .ok (.dup, 1) := by decide +kernel
theorem dX7_catchUp_29 : decode cX7_catchUp 29 = .ok (.getfield 72, 3) := by decide +kernel
theorem dX7_catchUp_32 : decode cX7_catchUp 32 = .ok (.iload_n 2, 1) := by decide +kernel
theorem dX7_catchUp_33 : decode cX7_catchUp 33 = .ok (.iconst 1, 1) := by decide +kernel
theorem dX7_catchUp_34 : decode cX7_catchUp 34 = .ok (.iadd, 1) := by decide +kernel
theorem dX7_catchUp_35 : decode cX7_catchUp 35 = .ok (.aload_n 1, 1) := by decide +kernel
theorem dX7_catchUp_36 : decode cX7_catchUp 36 = .ok (.getfield 155, 3) := by decide +kernel
theorem dX7_catchUp_39 : decode cX7_catchUp 39 = .ok (.imul, 1) := by decide +kernel
theorem dX7_catchUp_40 : decode cX7_catchUp 40 = .ok (.iadd, 1) := by decide +kernel
theorem dX7_catchUp_41 : decode cX7_catchUp 41 = .ok (.putfield 72, 3) := by decide +kernel
theorem dX7_catchUp_44 : decode cX7_catchUp 44 = .ok (.aload_n 0, 1) := by decide +kernel
theorem dX7_catchUp_45 : decode cX7_catchUp 45 = .ok (.dup, 1) := by decide +kernel
theorem dX7_catchUp_46 : decode cX7_catchUp 46 = .ok (.getfield 55, 3) := by decide +kernel
theorem dX7_catchUp_49 : decode cX7_catchUp 49 = .ok (.iload_n 2, 1) := by decide +kernel
theorem dX7_catchUp_50 : decode cX7_catchUp 50 = .ok (.iadd, 1) := by decide +kernel
theorem dX7_catchUp_51 : decode cX7_catchUp 51 = .ok (.putfield 55, 3) := by decide +kernel
theorem dX7_catchUp_54 : decode cX7_catchUp 54 = .ok (.return_, 1) := by decide +kernel
theorem dX8_init_0 : decode cX8_init 0 = .ok (.aload_n 0, 1) := by decide +kernel
theorem dX8_init_1 : decode cX8_init 1 = .ok (.invokespecial 1, 3) := by decide +kernel
theorem dX8_init_4 : decode cX8_init 4 = .ok (.aload_n 0, 1) := by decide +kernel
theorem dX8_init_5 : decode cX8_init 5 = .ok (.new 7, 3) := by decide +kernel
theorem dX8_init_8 : decode cX8_init 8 = .ok (.dup, 1) := by decide +kernel
theorem dX8_init_9 : decode cX8_init 9 = .ok (.invokespecial 9, 3) := by decide +kernel
theorem dX8_init_12 : decode cX8_init 12 = .ok (.putfield 10, 3) := by decide +kernel
theorem dX8_init_15 : decode cX8_init 15 = .ok (.aload_n 0, 1) := by decide +kernel
theorem dX8_init_16 : decode cX8_init 16 = .ok (.new 7, 3) := by decide +kernel
theorem dX8_init_19 : decode cX8_init 19 = .ok (.dup, 1) := by decide +kernel
theorem dX8_init_20 : decode cX8_init 20 = .ok (.invokespecial 9, 3) := by decide +kernel
theorem dX8_init_23 : decode cX8_init 23 = .ok (.putfield 16, 3) := by decide +kernel
theorem dX8_init_26 : decode cX8_init 26 = .ok (.aload_n 0, 1) := by decide +kernel
theorem dX8_init_27 : decode cX8_init 27 = .ok (.new 19, 3) := by decide +kernel
theorem dX8_init_30 : decode cX8_init 30 = .ok (.dup, 1) := by decide +kernel
theorem dX8_init_31 : decode cX8_init 31 = .ok (.invokespecial 21, 3) := by decide +kernel
theorem dX8_init_34 : decode cX8_init 34 = .ok (.putfield 22, 3) := by decide +kernel
theorem dX8_init_37 : decode cX8_init 37 = .ok (.aload_n 0, 1) := by decide +kernel
theorem dX8_init_38 : decode cX8_init 38 = .ok (.bipush 8, 2) := by decide +kernel
theorem dX8_init_40 : decode cX8_init 40 = .ok (.newarray .int, 2) := by decide +kernel
theorem dX8_init_42 : decode cX8_init 42 = .ok (.putfield 26, 3) := by decide +kernel
theorem dX8_init_45 : decode cX8_init 45 = .ok (.aload_n 0, 1) := by decide +kernel
theorem dX8_init_46 : decode cX8_init 46 = .ok (.new 30, 3) := by decide +kernel
theorem dX8_init_49 : decode cX8_init 49 = .ok (.dup, 1) := by decide +kernel
theorem dX8_init_50 : decode cX8_init 50 = .ok (.invokespecial 32, 3) := by decide +kernel
theorem dX8_init_53 : decode cX8_init 53 = .ok (.putfield 33, 3) := by decide +kernel
theorem dX8_init_56 : decode cX8_init 56 = .ok (.aload_n 0, 1) := by decide +kernel
theorem dX8_init_57 : decode cX8_init 57 = .ok (.new 37, 3) := by decide +kernel
theorem dX8_init_60 : decode cX8_init 60 = .ok (.dup, 1) := by decide +kernel
theorem dX8_init_61 : decode cX8_init 61 = .ok (.invokespecial 39, 3) := by decide +kernel
theorem dX8_init_64 : decode cX8_init 64 = .ok (.putfield 40, 3) := by decide +kernel
theorem dX8_init_67 : decode cX8_init 67 = .ok (.aload_n 0, 1) := by decide +kernel
theorem dX8_init_68 : decode cX8_init 68 = .ok (.new 44, 3) := by decide +kernel
theorem dX8_init_71 : decode cX8_init 71 = .ok (.dup, 1) := by decide +kernel
theorem dX8_init_72 : decode cX8_init 72 = .ok (.invokespecial 46, 3) := by decide +kernel
theorem dX8_init_75 : decode cX8_init 75 = .ok (.putfield 47, 3) := by decide +kernel
theorem dX8_init_78 : decode cX8_init 78 = .ok (.aload_n 0, 1) := by decide +kernel
theorem dX8_init_79 : decode cX8_init 79 = .ok (.new 51, 3) := by decide +kernel
theorem dX8_init_82 : decode cX8_init 82 = .ok (.dup, 1) := by decide +kernel
theorem dX8_init_83 : decode cX8_init 83 = .ok (.invokespecial 53, 3) := by decide +kernel
theorem dX8_init_86 : decode cX8_init 86 = .ok (.putfield 54, 3) := by decide +kernel
theorem dX8_init_89 : decode cX8_init 89 = .ok (.return_, 1) := by decide +kernel
theorem dX8_wheels_0 : decode cX8_wheels 0 = .ok (.iload_n 1, 1) := by decide +kernel
theorem dX8_wheels_1 : decode cX8_wheels 1 = .ok (.iload_n 2, 1) := by decide +kernel
theorem dX8_wheels_2 : decode cX8_wheels 2 = .ok (.iload_n 3, 1) := by decide +kernel
theorem dX8_wheels_3 : decode cX8_wheels 3 = .ok (.iload 4, 2) := by decide +kernel
theorem dX8_wheels_5 : decode cX8_wheels 5 = .ok (.invokestatic 58, 3) := by decide +kernel
theorem dX8_wheels_8 : decode cX8_wheels 8 = .ok (.ifCond .ne 5, 3) := by decide +kernel
theorem dX8_wheels_11 : decode cX8_wheels 11 = .ok (.iconst (-1), 1) := by decide +kernel
theorem dX8_wheels_12 : decode cX8_wheels 12 = .ok (.ireturn, 1) := by decide +kernel
theorem dX8_wheels_13 : decode cX8_wheels 13 = .ok (.aload_n 0, 1) := by decide +kernel
theorem dX8_wheels_14 : decode cX8_wheels 14 = .ok (.getfield 10, 3) := by decide +kernel
theorem dX8_wheels_17 : decode cX8_wheels 17 = .ok (.getfield 62, 3) := by decide +kernel
theorem dX8_wheels_20 : decode cX8_wheels 20 = .ok (.iload_n 1, 1) := by decide +kernel
theorem dX8_wheels_21 : decode cX8_wheels 21 = .ok (.iload_n 2, 1) := by decide +kernel
theorem dX8_wheels_22 : decode cX8_wheels 22 = .ok (.iload_n 3, 1) := by decide +kernel
theorem dX8_wheels_23 : decode cX8_wheels 23 = .ok (.iload 4, 2) := by decide +kernel
theorem dX8_wheels_25 : decode cX8_wheels 25 = .ok (.invokevirtual 65, 3) := by decide +kernel
theorem dX8_wheels_28 : decode cX8_wheels 28 = .ok (.ifCond .eq 6, 3) := by decide +kernel
theorem dX8_wheels_31 : decode cX8_wheels 31 = .ok (.bipush (-2), 2) := by decide +kernel
theorem dX8_wheels_33 : decode cX8_wheels 33 = .ok (.ireturn, 1) := by decide +kernel
theorem dX8_wheels_34 : decode cX8_wheels 34 = .ok (.aload_n 0, 1) := by decide +kernel
theorem dX8_wheels_35 : decode cX8_wheels 35 = .ok (.getfield 10, 3) := by decide +kernel
theorem dX8_wheels_38 : decode cX8_wheels 38 = .ok (.getfield 62, 3) := by decide +kernel
theorem dX8_wheels_41 : decode cX8_wheels 41 = .ok (.iload_n 1, 1) := by decide +kernel
theorem dX8_wheels_42 : decode cX8_wheels 42 = .ok (.iload_n 2, 1) := by decide +kernel
theorem dX8_wheels_43 : decode cX8_wheels 43 = .ok (.iload_n 3, 1) := by decide +kernel
theorem dX8_wheels_44 : decode cX8_wheels 44 = .ok (.iload 4, 2) := by decide +kernel
theorem dX8_wheels_46 : decode cX8_wheels 46 = .ok (.invokevirtual 68, 3) := by decide +kernel
theorem dX8_wheels_49 : decode cX8_wheels 49 = .ok (.aload_n 0, 1) := by decide +kernel
theorem dX8_wheels_50 : decode cX8_wheels 50 = .ok (.getfield 10, 3) := by decide +kernel
theorem dX8_wheels_53 : decode cX8_wheels 53 = .ok (.invokevirtual 72, 3) := by decide +kernel
theorem dX8_wheels_56 : decode cX8_wheels 56 = .ok (.aload_n 0, 1) := by decide +kernel
theorem dX8_wheels_57 : decode cX8_wheels 57 = .ok (.getfield 10, 3) := by decide +kernel
theorem dX8_wheels_60 : decode cX8_wheels 60 = .ok (.getfield 62, 3) := by decide +kernel
theorem dX8_wheels_63 : decode cX8_wheels 63 = .ok (.getfield 75, 3) := by decide +kernel
theorem dX8_wheels_66 : decode cX8_wheels 66 = .ok (.ireturn, 1) := by decide +kernel
theorem dX8_order_0 : decode cX8_order 0 = .ok (.iload_n 1, 1) := by decide +kernel
theorem dX8_order_1 : decode cX8_order 1 = .ok (.iconst 0, 1) := by decide +kernel
theorem dX8_order_2 : decode cX8_order 2 = .ok (.iconst 2, 1) := by decide +kernel
theorem dX8_order_3 : decode cX8_order 3 = .ok (.invokestatic 79, 3) := by decide +kernel
theorem dX8_order_6 : decode cX8_order 6 = .ok (.ifCond .ne 5, 3) := by decide +kernel
theorem dX8_order_9 : decode cX8_order 9 = .ok (.iconst (-1), 1) := by decide +kernel
theorem dX8_order_10 : decode cX8_order 10 = .ok (.ireturn, 1) := by decide +kernel
theorem dX8_order_11 : decode cX8_order 11 = .ok (.iload_n 1, 1) := by decide +kernel
theorem dX8_order_12 : decode cX8_order 12 = .ok (.aload_n 0, 1) := by decide +kernel
theorem dX8_order_13 : decode cX8_order 13 = .ok (.getfield 10, 3) := by decide +kernel
theorem dX8_order_16 : decode cX8_order 16 = .ok (.getfield 83, 3) := by decide +kernel
theorem dX8_order_19 : decode cX8_order 19 = .ok (.if_icmp .ne 6, 3) := by decide +kernel
theorem dX8_order_22 : decode cX8_order 22 = .ok (.bipush (-2), 2) := by decide +kernel
theorem dX8_order_24 : decode cX8_order 24 = .ok (.ireturn, 1) := by decide +kernel
theorem dX8_order_25 : decode cX8_order 25 = .ok (.aload_n 0, 1) := by decide +kernel
theorem dX8_order_26 : decode cX8_order 26 = .ok (.getfield 10, 3) := by decide +kernel
theorem dX8_order_29 : decode cX8_order 29 = .ok (.getfield 83, 3) := by decide +kernel
theorem dX8_order_32 : decode cX8_order 32 = .ok (.istore_n 2, 1) := by decide +kernel
theorem dX8_order_33 : decode cX8_order 33 = .ok (.aload_n 0, 1) := by decide +kernel
theorem dX8_order_34 : decode cX8_order 34 = .ok (.getfield 10, 3) := by decide +kernel
theorem dX8_order_37 : decode cX8_order 37 = .ok (.iload_n 1, 1) := by decide +kernel
theorem dX8_order_38 : decode cX8_order 38 = .ok (.putfield 83, 3) := by decide +kernel
theorem dX8_order_41 : decode cX8_order 41 = .ok (.iload_n 2, 1) := by decide +kernel
theorem dX8_order_42 : decode cX8_order 42 = .ok (.ireturn, 1) := by decide +kernel
theorem dX8_ticks_0 : decode cX8_ticks 0 = .ok (.aload_n 0, 1) := by decide +kernel
theorem dX8_ticks_1 : decode cX8_ticks 1 = .ok (.iload_n 1, 1) := by decide +kernel
theorem dX8_ticks_2 : decode cX8_ticks 2 = .ok (.invokevirtual 86, 3) := by decide +kernel
theorem dX8_ticks_5 : decode cX8_ticks 5 = .ok (.istore_n 2, 1) := by decide +kernel
theorem dX8_ticks_6 : decode cX8_ticks 6 = .ok (.iload_n 2, 1) := by decide +kernel
theorem dX8_ticks_7 : decode cX8_ticks 7 = .ok (.ifCond .ge 5, 3) := by decide +kernel
theorem dX8_ticks_10 : decode cX8_ticks 10 = .ok (.iload_n 2, 1) := by decide +kernel
theorem dX8_ticks_11 : decode cX8_ticks 11 = .ok (.ireturn, 1) := by decide +kernel
theorem dX8_ticks_12 : decode cX8_ticks 12 = .ok (.iconst 0, 1) := by decide +kernel
theorem dX8_ticks_13 : decode cX8_ticks 13 = .ok (.istore_n 3, 1) := by decide +kernel
theorem dX8_ticks_14 : decode cX8_ticks 14 = .ok (.iconst 0, 1) := by decide +kernel
theorem dX8_ticks_15 : decode cX8_ticks 15 = .ok (.istore 4, 2) := by decide +kernel
theorem dX8_ticks_17 : decode cX8_ticks 17 = .ok (.iload 4, 2) := by decide +kernel
theorem dX8_ticks_19 : decode cX8_ticks 19 = .ok (.iload_n 1, 1) := by decide +kernel
theorem dX8_ticks_20 : decode cX8_ticks 20 = .ok (.if_icmp .ge 23, 3) := by decide +kernel
theorem dX8_ticks_23 : decode cX8_ticks 23 = .ok (.aload_n 0, 1) := by decide +kernel
theorem dX8_ticks_24 : decode cX8_ticks 24 = .ok (.getfield 10, 3) := by decide +kernel
theorem dX8_ticks_27 : decode cX8_ticks 27 = .ok (.invokevirtual 90, 3) := by decide +kernel
theorem dX8_ticks_30 : decode cX8_ticks 30 = .ok (.iload_n 3, 1) := by decide +kernel
theorem dX8_ticks_31 : decode cX8_ticks 31 = .ok (.aload_n 0, 1) := by decide +kernel
theorem dX8_ticks_32 : decode cX8_ticks 32 = .ok (.invokevirtual 93, 3) := by decide +kernel
theorem dX8_ticks_35 : decode cX8_ticks 35 = .ok (.iadd, 1) := by decide +kernel
theorem dX8_ticks_36 : decode cX8_ticks 36 = .ok (.istore_n 3, 1) := by decide +kernel
theorem dX8_ticks_37 : decode cX8_ticks 37 = .ok (.iinc 4 1, 3) := by decide +kernel
theorem dX8_ticks_40 : decode cX8_ticks 40 = .ok (.goto (-23), 3) := by decide +kernel
theorem dX8_ticks_43 : decode cX8_ticks 43 = .ok (.aload_n 0, 1) := by decide +kernel
theorem dX8_ticks_44 : decode cX8_ticks 44 = .ok (.iload_n 3, 1) := by decide +kernel
theorem dX8_ticks_45 : decode cX8_ticks 45 = .ok (.iconst 0, 1) := by decide +kernel
theorem dX8_ticks_46 : decode cX8_ticks 46 = .ok (.invokevirtual 97, 3) := by decide +kernel
theorem dX8_ticks_49 : decode cX8_ticks 49 = .ok (.iload_n 3, 1) := by decide +kernel
theorem dX8_ticks_50 : decode cX8_ticks 50 = .ok (.ireturn, 1) := by decide +kernel
theorem dX8_leaps_0 : decode cX8_leaps 0 = .ok (.aload_n 0, 1) := by decide +kernel
theorem dX8_leaps_1 : decode cX8_leaps 1 = .ok (.iload_n 1, 1) := by decide +kernel
theorem dX8_leaps_2 : decode cX8_leaps 2 = .ok (.invokevirtual 101, 3) := by decide +kernel
theorem dX8_leaps_5 : decode cX8_leaps 5 = .ok (.istore_n 2, 1) := by decide +kernel
theorem dX8_leaps_6 : decode cX8_leaps 6 = .ok (.iload_n 2, 1) := by decide +kernel
theorem dX8_leaps_7 : decode cX8_leaps 7 = .ok (.ifCond .ge 5, 3) := by decide +kernel
theorem dX8_leaps_10 : decode cX8_leaps 10 = .ok (.iload_n 2, 1) := by decide +kernel
theorem dX8_leaps_11 : decode cX8_leaps 11 = .ok (.ireturn, 1) := by decide +kernel
theorem dX8_leaps_12 : decode cX8_leaps 12 = .ok (.aload_n 0, 1) := by decide +kernel
theorem dX8_leaps_13 : decode cX8_leaps 13 = .ok (.getfield 10, 3) := by decide +kernel
theorem dX8_leaps_16 : decode cX8_leaps 16 = .ok (.iload_n 1, 1) := by decide +kernel
theorem dX8_leaps_17 : decode cX8_leaps 17 = .ok (.invokevirtual 104, 3) := by decide +kernel
theorem dX8_leaps_20 : decode cX8_leaps 20 = .ok (.iload_n 1, 1) := by decide +kernel
theorem dX8_leaps_21 : decode cX8_leaps 21 = .ok (.ifCond .le 16, 3) := by decide +kernel
theorem dX8_leaps_24 : decode cX8_leaps 24 = .ok (.aload_n 0, 1) := by decide +kernel
theorem dX8_leaps_25 : decode cX8_leaps 25 = .ok (.dup, 1) := by decide +kernel
theorem dX8_leaps_26 : decode cX8_leaps 26 = .ok (.getfield 108, 3) := by decide +kernel
theorem dX8_leaps_29 : decode cX8_leaps 29 = .ok (.iload_n 1, 1) := by decide +kernel
theorem dX8_leaps_30 : decode cX8_leaps 30 = .ok (.iadd, 1) := by decide +kernel
theorem dX8_leaps_31 : decode cX8_leaps 31 = .ok (.putfield 108, 3) := by decide +kernel
theorem dX8_leaps_34 : decode cX8_leaps 34 = .ok (.goto 13, 3) := by decide +kernel
theorem dX8_leaps_37 : decode cX8_leaps 37 = .ok (.aload_n 0, 1) := by decide +kernel
theorem dX8_leaps_38 : decode cX8_leaps 38 = .ok (.dup, 1) := by decide +kernel
theorem dX8_leaps_39 : decode cX8_leaps 39 = .ok (.getfield 111, 3) := by decide +kernel
theorem dX8_leaps_42 : decode cX8_leaps 42 = .ok (.iload_n 1, 1) := by decide +kernel
theorem dX8_leaps_43 : decode cX8_leaps 43 = .ok (.isub, 1) := by decide +kernel
theorem dX8_leaps_44 : decode cX8_leaps 44 = .ok (.putfield 111, 3) := by decide +kernel
theorem dX8_leaps_47 : decode cX8_leaps 47 = .ok (.aload_n 0, 1) := by decide +kernel
theorem dX8_leaps_48 : decode cX8_leaps 48 = .ok (.invokevirtual 93, 3) := by decide +kernel
theorem dX8_leaps_51 : decode cX8_leaps 51 = .ok (.istore_n 3, 1) := by decide +kernel
theorem dX8_leaps_52 : decode cX8_leaps 52 = .ok (.aload_n 0, 1) := by decide +kernel
theorem dX8_leaps_53 : decode cX8_leaps 53 = .ok (.iload_n 3, 1) := by decide +kernel
theorem dX8_leaps_54 : decode cX8_leaps 54 = .ok (.iconst 1, 1) := by decide +kernel
theorem dX8_leaps_55 : decode cX8_leaps 55 = .ok (.invokevirtual 97, 3) := by decide +kernel
theorem dX8_leaps_58 : decode cX8_leaps 58 = .ok (.iload_n 3, 1) := by decide +kernel
theorem dX8_leaps_59 : decode cX8_leaps 59 = .ok (.ireturn, 1) := by decide +kernel
theorem dX8_sets_0 : decode cX8_sets 0 = .ok (.iload_n 1, 1) := by decide +kernel
theorem dX8_sets_1 : decode cX8_sets 1 = .ok (.iconst 1, 1) := by decide +kernel
theorem dX8_sets_2 : decode cX8_sets 2 = .ok (.ldc 114, 2) := by decide +kernel
theorem dX8_sets_4 : decode cX8_sets 4 = .ok (.invokestatic 79, 3) := by decide +kernel
theorem dX8_sets_7 : decode cX8_sets 7 = .ok (.ifCond .eq 46, 3) := by decide +kernel
theorem dX8_sets_10 : decode cX8_sets 10 = .ok (.iload_n 2, 1) := by decide +kernel
theorem dX8_sets_11 : decode cX8_sets 11 = .ok (.invokestatic 115, 3) := by decide +kernel
theorem dX8_sets_14 : decode cX8_sets 14 = .ok (.ifCond .eq 39, 3) := by decide +kernel
theorem dX8_sets_17 : decode cX8_sets 17 = .ok (.iload_n 3, 1) := by decide +kernel
theorem dX8_sets_18 : decode cX8_sets 18 = .ok (.iconst 0, 1) := by decide +kernel
theorem dX8_sets_19 : decode cX8_sets 19 = .ok (.iconst 3, 1) := by decide +kernel
theorem dX8_sets_20 : decode cX8_sets 20 = .ok (.invokestatic 79, 3) := by decide +kernel
theorem dX8_sets_23 : decode cX8_sets 23 = .ok (.ifCond .eq 30, 3) := by decide +kernel
theorem dX8_sets_26 : decode cX8_sets 26 = .ok (.iload 4, 2) := by decide +kernel
theorem dX8_sets_28 : decode cX8_sets 28 = .ok (.iconst 1, 1) := by decide +kernel
theorem dX8_sets_29 : decode cX8_sets 29 = .ok (.sipush 1000, 3) := by decide +kernel
theorem dX8_sets_32 : decode cX8_sets 32 = .ok (.invokestatic 79, 3) := by decide +kernel
theorem dX8_sets_35 : decode cX8_sets 35 = .ok (.ifCond .eq 18, 3) := by decide +kernel
theorem dX8_sets_38 : decode cX8_sets 38 = .ok (.iload 5, 2) := by decide +kernel
theorem dX8_sets_40 : decode cX8_sets 40 = .ok (.iconst 0, 1) := by decide +kernel
theorem dX8_sets_41 : decode cX8_sets 41 = .ok (.bipush 99, 2) := by decide +kernel
theorem dX8_sets_43 : decode cX8_sets 43 = .ok (.invokestatic 79, 3) := by decide +kernel
theorem dX8_sets_46 : decode cX8_sets 46 = .ok (.ifCond .eq 7, 3) := by decide +kernel
theorem dX8_sets_49 : decode cX8_sets 49 = .ok (.iconst 1, 1) := by decide +kernel
theorem dX8_sets_50 : decode cX8_sets 50 = .ok (.goto 4, 3) := by decide +kernel
theorem dX8_sets_53 : decode cX8_sets 53 = .ok (.iconst 0, 1) := by decide +kernel
theorem dX8_sets_54 : decode cX8_sets 54 = .ok (.istore 6, 2) := by decide +kernel
theorem dX8_sets_56 : decode cX8_sets 56 = .ok (.iload 6, 2) := by decide +kernel
theorem dX8_sets_58 : decode cX8_sets 58 = .ok (.ifCond .ne 5, 3) := by decide +kernel
theorem dX8_sets_61 : decode cX8_sets 61 = .ok (.iconst (-1), 1) := by decide +kernel
theorem dX8_sets_62 : decode cX8_sets 62 = .ok (.ireturn, 1) := by decide +kernel
theorem dX8_sets_63 : decode cX8_sets 63 = .ok (.aload_n 0, 1) := by decide +kernel
theorem dX8_sets_64 : decode cX8_sets 64 = .ok (.getfield 10, 3) := by decide +kernel
theorem dX8_sets_67 : decode cX8_sets 67 = .ok (.invokevirtual 119, 3) := by decide +kernel
theorem dX8_sets_70 : decode cX8_sets 70 = .ok (.astore 7, 2) := by decide +kernel
theorem dX8_sets_72 : decode cX8_sets 72 = .ok (.aload 7, 2) := by decide +kernel
theorem dX8_sets_74 : decode cX8_sets 74 = .ok (.ifnonnull 6, 3) := by decide +kernel
theorem dX8_sets_77 : decode cX8_sets 77 = .ok (.bipush (-3), 2) := by decide +kernel
theorem dX8_sets_79 : decode cX8_sets 79 = .ok (.ireturn, 1) := by decide +kernel
theorem dX8_sets_80 : decode cX8_sets 80 = .ok (.aload 7, 2) := by decide +kernel
theorem dX8_sets_82 : decode cX8_sets 82 = .ok (.aload_n 0, 1) := by decide +kernel
theorem dX8_sets_83 : decode cX8_sets 83 = .ok (.getfield 10, 3) := by decide +kernel
theorem dX8_sets_86 : decode cX8_sets 86 = .ok (.getfield 123, 3) := by decide +kernel
theorem dX8_sets_89 : decode cX8_sets 89 = .ok (.iload_n 1, 1) := by decide +kernel
theorem dX8_sets_90 : decode cX8_sets 90 = .ok (.iadd, 1) := by decide +kernel
theorem dX8_sets_91 : decode cX8_sets 91 = .ok (.aload_n 0, 1) := by decide +kernel
theorem dX8_sets_92 : decode cX8_sets 92 = .ok (.getfield 126, 3) := by decide +kernel
theorem dX8_sets_95 : decode cX8_sets 95 = .ok (.invokevirtual 129, 3) := by decide +kernel
theorem dX8_sets_98 : decode cX8_sets 98 = .ok (.aload 7, 2) := by decide +kernel
theorem dX8_sets_100 : decode cX8_sets 100 = .ok (.iload_n 2, 1) := by decide +kernel
theorem dX8_sets_101 : decode cX8_sets 101 = .ok (.putfield 135, 3) := by decide +kernel
theorem dX8_sets_104 : decode cX8_sets 104 = .ok (.aload 7, 2) := by decide +kernel
theorem dX8_sets_106 : decode cX8_sets 106 = .ok (.iload_n 3, 1) := by decide +kernel
theorem dX8_sets_107 : decode cX8_sets 107 = .ok (.putfield 138, 3) := by decide +kernel
theorem dX8_sets_110 : decode cX8_sets 110 = .ok (.aload 7, 2) := by decide +kernel
theorem dX8_sets_112 : decode cX8_sets 112 = .ok (.iload 4, 2) := by decide +kernel
theorem dX8_sets_114 : decode cX8_sets 114 = .ok (.putfield 141, 3) := by decide +kernel
theorem dX8_sets_117 : decode cX8_sets 117 = .ok (.aload 7, 2) := by decide +kernel
theorem dX8_sets_119 : decode cX8_sets 119 = .ok (.iload 5, 2) := by decide +kernel
theorem dX8_sets_121 : decode cX8_sets 121 = .ok (.putfield 144, 3) := by decide +kernel
theorem dX8_sets_124 : decode cX8_sets 124 = .ok (.aload_n 0, 1) := by decide +kernel
theorem dX8_sets_125 : decode cX8_sets 125 = .ok (.getfield 10, 3) := by decide +kernel
theorem dX8_sets_128 : decode cX8_sets 128 = .ok (.aload 7, 2) := by decide +kernel
theorem dX8_sets_130 : decode cX8_sets 130 = .ok (.invokevirtual 147, 3) := by decide +kernel
theorem dX8_sets_133 : decode cX8_sets 133 = .ok (.aload_n 0, 1) := by decide +kernel
theorem dX8_sets_134 : decode cX8_sets 134 = .ok (.dup, 1) := by decide +kernel
theorem dX8_sets_135 : decode cX8_sets 135 = .ok (.getfield 126, 3) := by decide +kernel
theorem dX8_sets_138 : decode cX8_sets 138 = .ok (.iconst 1, 1) := by decide +kernel
theorem dX8_sets_139 : decode cX8_sets 139 = .ok (.iadd, 1) := by decide +kernel
theorem dX8_sets_140 : decode cX8_sets 140 = .ok (.putfield 126, 3) := by decide +kernel
theorem dX8_sets_143 : decode cX8_sets 143 = .ok (.aload 7, 2) := by decide +kernel
theorem dX8_sets_145 : decode cX8_sets 145 = .ok (.getfield 151, 3) := by decide +kernel
theorem dX8_sets_148 : decode cX8_sets 148 = .ok (.ireturn, 1) := by decide +kernel
theorem dX8_cancels_0 : decode cX8_cancels 0 = .ok (.aload_n 0, 1) := by decide +kernel
theorem dX8_cancels_1 : decode cX8_cancels 1 = .ok (.getfield 10, 3) := by decide +kernel
theorem dX8_cancels_4 : decode cX8_cancels 4 = .ok (.iload_n 1, 1) := by decide +kernel
theorem dX8_cancels_5 : decode cX8_cancels 5 = .ok (.invokevirtual 154, 3) := by decide +kernel
theorem dX8_cancels_8 : decode cX8_cancels 8 = .ok (.astore_n 2, 1) := by decide +kernel
theorem dX8_cancels_9 : decode cX8_cancels 9 = .ok (.aload_n 2, 1) := by decide +kernel
theorem dX8_cancels_10 : decode cX8_cancels 10 = .ok (.ifnonnull 5, 3) := by decide +kernel
theorem dX8_cancels_13 : decode cX8_cancels 13 = .ok (.iconst (-1), 1) := by decide +kernel
theorem dX8_cancels_14 : decode cX8_cancels 14 = .ok (.ireturn, 1) := by decide +kernel
theorem dX8_cancels_15 : decode cX8_cancels 15 = .ok (.aload_n 2, 1) := by decide +kernel
theorem dX8_cancels_16 : decode cX8_cancels 16 = .ok (.iconst 0, 1) := by decide +kernel
theorem dX8_cancels_17 : decode cX8_cancels 17 = .ok (.putfield 158, 3) := by decide +kernel
theorem dX8_cancels_20 : decode cX8_cancels 20 = .ok (.aload_n 0, 1) := by decide +kernel
theorem dX8_cancels_21 : decode cX8_cancels 21 = .ok (.dup, 1) := by decide +kernel
theorem dX8_cancels_22 : decode cX8_cancels 22 = .ok (.getfield 162, 3) := by decide +kernel
theorem dX8_cancels_25 : decode cX8_cancels 25 = .ok (.iconst 1, 1) := by decide +kernel
theorem dX8_cancels_26 : decode cX8_cancels 26 = .ok (.iadd, 1) := by decide +kernel
theorem dX8_cancels_27 : decode cX8_cancels 27 = .ok (.putfield 162, 3) := by decide +kernel
theorem dX8_cancels_30 : decode cX8_cancels 30 = .ok (.aload_n 0, 1) := by decide +kernel
theorem dX8_cancels_31 : decode cX8_cancels 31 = .ok (.getfield 10, 3) := by decide +kernel
theorem dX8_cancels_34 : decode cX8_cancels 34 = .ok (.invokevirtual 165, 3) := by decide +kernel
theorem dX8_cancels_37 : decode cX8_cancels 37 = .ok (.ireturn, 1) := by decide +kernel
theorem dX8_cancelsAll_0 : decode cX8_cancelsAll 0 = .ok (.iload_n 1, 1) := by decide +kernel
theorem dX8_cancelsAll_1 : decode cX8_cancelsAll 1 = .ok (.invokestatic 115, 3) := by decide +kernel
theorem dX8_cancelsAll_4 : decode cX8_cancelsAll 4 = .ok (.ifCond .ne 5, 3) := by decide +kernel
end
section
theorem dX8_cancelsAll_7 : decode cX8_cancelsAll 7 = .ok (.iconst (-1), 1) := by decide +kernel
theorem dX8_cancelsAll_8 : decode cX8_cancelsAll 8 = .ok (.ireturn, 1) := by decide +kernel
theorem dX8_cancelsAll_9 : decode cX8_cancelsAll 9 = .ok (.iconst 0, 1) := by decide +kernel
theorem dX8_cancelsAll_10 : decode cX8_cancelsAll 10 = .ok (.istore_n 2, 1) := by decide +kernel
theorem dX8_cancelsAll_11 : decode cX8_cancelsAll 11 = .ok (.iconst 0, 1) := by decide +kernel
theorem dX8_cancelsAll_12 : decode cX8_cancelsAll 12 = .ok (.istore_n 3, 1) := by decide +kernel
theorem dX8_cancelsAll_13 : decode cX8_cancelsAll 13 = .ok (.iload_n 3, 1) := by decide +kernel
theorem dX8_cancelsAll_14 : decode cX8_cancelsAll 14 = .ok (.bipush 16, 2) := by decide +kernel
theorem dX8_cancelsAll_16 : decode cX8_cancelsAll 16 = .ok (.if_icmp .ge 42, 3) := by decide +kernel
theorem dX8_cancelsAll_19 : decode cX8_cancelsAll 19 = .ok (.aload_n 0, 1) := by decide +kernel
theorem dX8_cancelsAll_20 : decode cX8_cancelsAll 20 = .ok (.getfield 10, 3) := by decide +kernel
theorem dX8_cancelsAll_23 : decode cX8_cancelsAll 23 = .ok (.iload_n 3, 1) := by decide +kernel
theorem dX8_cancelsAll_24 : decode cX8_cancelsAll 24 = .ok (.invokevirtual 154, 3) := by decide +kernel
theorem dX8_cancelsAll_27 : decode cX8_cancelsAll 27 = .ok (.astore 4, 2) := by decide +kernel
theorem dX8_cancelsAll_29 : decode cX8_cancelsAll 29 = .ok (.aload 4, 2) := by decide +kernel
theorem dX8_cancelsAll_31 : decode cX8_cancelsAll 31 = .ok (.ifnull 21, 3) := by decide +kernel
theorem dX8_cancelsAll_34 : decode cX8_cancelsAll 34 = .ok (.aload 4, 2) := by decide +kernel
theorem dX8_cancelsAll_36 : decode cX8_cancelsAll 36 = .ok (.getfield 135, 3) := by decide +kernel
theorem dX8_cancelsAll_39 : decode cX8_cancelsAll 39 = .ok (.iload_n 1, 1) := by decide +kernel
theorem dX8_cancelsAll_40 : decode cX8_cancelsAll 40 = .ok (.if_icmp .ne 12, 3) := by decide +kernel
theorem dX8_cancelsAll_43 : decode cX8_cancelsAll 43 = .ok (.aload 4, 2) := by decide +kernel
theorem dX8_cancelsAll_45 : decode cX8_cancelsAll 45 = .ok (.iconst 0, 1) := by decide +kernel
theorem dX8_cancelsAll_46 : decode cX8_cancelsAll 46 = .ok (.putfield 158, 3) := by decide +kernel
theorem dX8_cancelsAll_49 : decode cX8_cancelsAll 49 = .ok (.iinc 2 1, 3) := by decide +kernel
theorem dX8_cancelsAll_52 : decode cX8_cancelsAll 52 = .ok (.iinc 3 1, 3) := by decide +kernel
theorem dX8_cancelsAll_55 : decode cX8_cancelsAll 55 = .ok (.goto (-42), 3) := by decide +kernel
theorem dX8_cancelsAll_58 : decode cX8_cancelsAll 58 = .ok (.aload_n 0, 1) := by decide +kernel
theorem dX8_cancelsAll_59 : decode cX8_cancelsAll 59 = .ok (.dup, 1) := by decide +kernel
theorem dX8_cancelsAll_60 : decode cX8_cancelsAll 60 = .ok (.getfield 162, 3) := by decide +kernel
theorem dX8_cancelsAll_63 : decode cX8_cancelsAll 63 = .ok (.iload_n 2, 1) := by decide +kernel
theorem dX8_cancelsAll_64 : decode cX8_cancelsAll 64 = .ok (.iadd, 1) := by decide +kernel
theorem dX8_cancelsAll_65 : decode cX8_cancelsAll 65 = .ok (.putfield 162, 3) := by decide +kernel
theorem dX8_cancelsAll_68 : decode cX8_cancelsAll 68 = .ok (.iload_n 2, 1) := by decide +kernel
theorem dX8_cancelsAll_69 : decode cX8_cancelsAll 69 = .ok (.ireturn, 1) := by decide +kernel
theorem dX8_steady_0 : decode cX8_steady 0 = .ok (.aload_n 0, 1) := by decide +kernel
theorem dX8_steady_1 : decode cX8_steady 1 = .ok (.getfield 10, 3) := by decide +kernel
theorem dX8_steady_4 : decode cX8_steady 4 = .ok (.iload_n 1, 1) := by decide +kernel
theorem dX8_steady_5 : decode cX8_steady 5 = .ok (.invokevirtual 154, 3) := by decide +kernel
theorem dX8_steady_8 : decode cX8_steady 8 = .ok (.astore_n 3, 1) := by decide +kernel
theorem dX8_steady_9 : decode cX8_steady 9 = .ok (.aload_n 3, 1) := by decide +kernel
theorem dX8_steady_10 : decode cX8_steady 10 = .ok (.ifnonnull 5, 3) := by decide +kernel
theorem dX8_steady_13 : decode cX8_steady 13 = .ok (.iconst (-1), 1) := by decide +kernel
theorem dX8_steady_14 : decode cX8_steady 14 = .ok (.ireturn, 1) := by decide +kernel
theorem dX8_steady_15 : decode cX8_steady 15 = .ok (.aload_n 3, 1) := by decide +kernel
theorem dX8_steady_16 : decode cX8_steady 16 = .ok (.getfield 168, 3) := by decide +kernel
theorem dX8_steady_19 : decode cX8_steady 19 = .ok (.iload_n 2, 1) := by decide +kernel
theorem dX8_steady_20 : decode cX8_steady 20 = .ok (.if_icmp .ne 6, 3) := by decide +kernel
theorem dX8_steady_23 : decode cX8_steady 23 = .ok (.bipush (-2), 2) := by decide +kernel
theorem dX8_steady_25 : decode cX8_steady 25 = .ok (.ireturn, 1) := by decide +kernel
theorem dX8_steady_26 : decode cX8_steady 26 = .ok (.aload_n 3, 1) := by decide +kernel
theorem dX8_steady_27 : decode cX8_steady 27 = .ok (.iload_n 2, 1) := by decide +kernel
theorem dX8_steady_28 : decode cX8_steady 28 = .ok (.putfield 168, 3) := by decide +kernel
theorem dX8_steady_31 : decode cX8_steady 31 = .ok (.iload_n 2, 1) := by decide +kernel
theorem dX8_steady_32 : decode cX8_steady 32 = .ok (.ifCond .eq 7, 3) := by decide +kernel
theorem dX8_steady_35 : decode cX8_steady 35 = .ok (.iconst 0, 1) := by decide +kernel
theorem dX8_steady_36 : decode cX8_steady 36 = .ok (.goto 4, 3) := by decide +kernel
theorem dX8_steady_39 : decode cX8_steady 39 = .ok (.iconst 1, 1) := by decide +kernel
theorem dX8_steady_40 : decode cX8_steady 40 = .ok (.ireturn, 1) := by decide +kernel
theorem dX8_pauses_0 : decode cX8_pauses 0 = .ok (.aload_n 0, 1) := by decide +kernel
theorem dX8_pauses_1 : decode cX8_pauses 1 = .ok (.getfield 10, 3) := by decide +kernel
theorem dX8_pauses_4 : decode cX8_pauses 4 = .ok (.iload_n 1, 1) := by decide +kernel
theorem dX8_pauses_5 : decode cX8_pauses 5 = .ok (.invokevirtual 154, 3) := by decide +kernel
theorem dX8_pauses_8 : decode cX8_pauses 8 = .ok (.astore_n 2, 1) := by decide +kernel
theorem dX8_pauses_9 : decode cX8_pauses 9 = .ok (.aload_n 2, 1) := by decide +kernel
theorem dX8_pauses_10 : decode cX8_pauses 10 = .ok (.ifnonnull 5, 3) := by decide +kernel
theorem dX8_pauses_13 : decode cX8_pauses 13 = .ok (.iconst (-1), 1) := by decide +kernel
theorem dX8_pauses_14 : decode cX8_pauses 14 = .ok (.ireturn, 1) := by decide +kernel
theorem dX8_pauses_15 : decode cX8_pauses 15 = .ok (.aload_n 2, 1) := by decide +kernel
theorem dX8_pauses_16 : decode cX8_pauses 16 = .ok (.getfield 171, 3) := by decide +kernel
theorem dX8_pauses_19 : decode cX8_pauses 19 = .ok (.ifCond .eq 6, 3) := by decide +kernel
theorem dX8_pauses_22 : decode cX8_pauses 22 = .ok (.bipush (-2), 2) := by decide +kernel
theorem dX8_pauses_24 : decode cX8_pauses 24 = .ok (.ireturn, 1) := by decide +kernel
theorem dX8_pauses_25 : decode cX8_pauses 25 = .ok (.aload_n 0, 1) := by decide +kernel
theorem dX8_pauses_26 : decode cX8_pauses 26 = .ok (.getfield 10, 3) := by decide +kernel
theorem dX8_pauses_29 : decode cX8_pauses 29 = .ok (.aload_n 2, 1) := by decide +kernel
theorem dX8_pauses_30 : decode cX8_pauses 30 = .ok (.invokevirtual 174, 3) := by decide +kernel
theorem dX8_pauses_33 : decode cX8_pauses 33 = .ok (.aload_n 2, 1) := by decide +kernel
theorem dX8_pauses_34 : decode cX8_pauses 34 = .ok (.getfield 177, 3) := by decide +kernel
theorem dX8_pauses_37 : decode cX8_pauses 37 = .ok (.ireturn, 1) := by decide +kernel
theorem dX8_resumes_0 : decode cX8_resumes 0 = .ok (.aload_n 0, 1) := by decide +kernel
theorem dX8_resumes_1 : decode cX8_resumes 1 = .ok (.getfield 10, 3) := by decide +kernel
theorem dX8_resumes_4 : decode cX8_resumes 4 = .ok (.iload_n 1, 1) := by decide +kernel
theorem dX8_resumes_5 : decode cX8_resumes 5 = .ok (.invokevirtual 154, 3) := by decide +kernel
theorem dX8_resumes_8 : decode cX8_resumes 8 = .ok (.astore_n 2, 1) := by decide +kernel
theorem dX8_resumes_9 : decode cX8_resumes 9 = .ok (.aload_n 2, 1) := by decide +kernel
theorem dX8_resumes_10 : decode cX8_resumes 10 = .ok (.ifnonnull 5, 3) := by decide +kernel
theorem dX8_resumes_13 : decode cX8_resumes 13 = .ok (.iconst (-1), 1) := by decide +kernel
theorem dX8_resumes_14 : decode cX8_resumes 14 = .ok (.ireturn, 1) := by decide +kernel
theorem dX8_resumes_15 : decode cX8_resumes 15 = .ok (.aload_n 2, 1) := by decide +kernel
theorem dX8_resumes_16 : decode cX8_resumes 16 = .ok (.getfield 171, 3) := by decide +kernel
theorem dX8_resumes_19 : decode cX8_resumes 19 = .ok (.ifCond .ne 6, 3) := by decide +kernel
theorem dX8_resumes_22 : decode cX8_resumes 22 = .ok (.bipush (-2), 2) := by decide +kernel
theorem dX8_resumes_24 : decode cX8_resumes 24 = .ok (.ireturn, 1) := by decide +kernel
theorem dX8_resumes_25 : decode cX8_resumes 25 = .ok (.aload_n 0, 1) := by decide +kernel
theorem dX8_resumes_26 : decode cX8_resumes 26 = .ok (.getfield 10, 3) := by decide +kernel
theorem dX8_resumes_29 : decode cX8_resumes 29 = .ok (.aload_n 2, 1) := by decide +kernel
theorem dX8_resumes_30 : decode cX8_resumes 30 = .ok (.invokevirtual 180, 3) := by decide +kernel
theorem dX8_resumes_33 : decode cX8_resumes 33 = .ok (.aload_n 2, 1) := by decide +kernel
theorem dX8_resumes_34 : decode cX8_resumes 34 = .ok (.getfield 183, 3) := by decide +kernel
theorem dX8_resumes_37 : decode cX8_resumes 37 = .ok (.ireturn, 1) := by decide +kernel
theorem dX8_holds_0 : decode cX8_holds 0 = .ok (.iload_n 1, 1) := by decide +kernel
theorem dX8_holds_1 : decode cX8_holds 1 = .ok (.invokestatic 115, 3) := by decide +kernel
theorem dX8_holds_4 : decode cX8_holds 4 = .ok (.ifCond .ne 5, 3) := by decide +kernel
theorem dX8_holds_7 : decode cX8_holds 7 = .ok (.iconst (-1), 1) := by decide +kernel
theorem dX8_holds_8 : decode cX8_holds 8 = .ok (.ireturn, 1) := by decide +kernel
theorem dX8_holds_9 : decode cX8_holds 9 = .ok (.iconst 0, 1) := by decide +kernel
theorem dX8_holds_10 : decode cX8_holds 10 = .ok (.istore_n 2, 1) := by decide +kernel
theorem dX8_holds_11 : decode cX8_holds 11 = .ok (.iconst 0, 1) := by decide +kernel
theorem dX8_holds_12 : decode cX8_holds 12 = .ok (.istore_n 3, 1) := by decide +kernel
theorem dX8_holds_13 : decode cX8_holds 13 = .ok (.iload_n 3, 1) := by decide +kernel
theorem dX8_holds_14 : decode cX8_holds 14 = .ok (.bipush 16, 2) := by decide +kernel
theorem dX8_holds_16 : decode cX8_holds 16 = .ok (.if_icmp .ge 45, 3) := by decide +kernel
theorem dX8_holds_19 : decode cX8_holds 19 = .ok (.aload_n 0, 1) := by decide +kernel
theorem dX8_holds_20 : decode cX8_holds 20 = .ok (.getfield 10, 3) := by decide +kernel
theorem dX8_holds_23 : decode cX8_holds 23 = .ok (.iload_n 3, 1) := by decide +kernel
theorem dX8_holds_24 : decode cX8_holds 24 = .ok (.invokevirtual 186, 3) := by decide +kernel
theorem dX8_holds_27 : decode cX8_holds 27 = .ok (.astore 4, 2) := by decide +kernel
theorem dX8_holds_29 : decode cX8_holds 29 = .ok (.aload 4, 2) := by decide +kernel
theorem dX8_holds_31 : decode cX8_holds 31 = .ok (.ifnull 24, 3) := by decide +kernel
theorem dX8_holds_34 : decode cX8_holds 34 = .ok (.aload 4, 2) := by decide +kernel
theorem dX8_holds_36 : decode cX8_holds 36 = .ok (.getfield 135, 3) := by decide +kernel
theorem dX8_holds_39 : decode cX8_holds 39 = .ok (.iload_n 1, 1) := by decide +kernel
theorem dX8_holds_40 : decode cX8_holds 40 = .ok (.if_icmp .ne 15, 3) := by decide +kernel
theorem dX8_holds_43 : decode cX8_holds 43 = .ok (.aload_n 0, 1) := by decide +kernel
theorem dX8_holds_44 : decode cX8_holds 44 = .ok (.getfield 10, 3) := by decide +kernel
theorem dX8_holds_47 : decode cX8_holds 47 = .ok (.aload 4, 2) := by decide +kernel
theorem dX8_holds_49 : decode cX8_holds 49 = .ok (.invokevirtual 174, 3) := by decide +kernel
theorem dX8_holds_52 : decode cX8_holds 52 = .ok (.iinc 2 1, 3) := by decide +kernel
theorem dX8_holds_55 : decode cX8_holds 55 = .ok (.iinc 3 1, 3) := by decide +kernel
theorem dX8_holds_58 : decode cX8_holds 58 = .ok (.goto (-45), 3) := by decide +kernel
theorem dX8_holds_61 : decode cX8_holds 61 = .ok (.iload_n 2, 1) := by decide +kernel
theorem dX8_holds_62 : decode cX8_holds 62 = .ok (.ireturn, 1) := by decide +kernel
theorem dX8_goesOn_0 : decode cX8_goesOn 0 = .ok (.iload_n 1, 1) := by decide +kernel
theorem dX8_goesOn_1 : decode cX8_goesOn 1 = .ok (.invokestatic 115, 3) := by decide +kernel
theorem dX8_goesOn_4 : decode cX8_goesOn 4 = .ok (.ifCond .ne 5, 3) := by decide +kernel
theorem dX8_goesOn_7 : decode cX8_goesOn 7 = .ok (.iconst (-1), 1) := by decide +kernel
theorem dX8_goesOn_8 : decode cX8_goesOn 8 = .ok (.ireturn, 1) := by decide +kernel
theorem dX8_goesOn_9 : decode cX8_goesOn 9 = .ok (.iconst 0, 1) := by decide +kernel
theorem dX8_goesOn_10 : decode cX8_goesOn 10 = .ok (.istore_n 2, 1) := by decide +kernel
theorem dX8_goesOn_11 : decode cX8_goesOn 11 = .ok (.iconst 0, 1) := by decide +kernel
theorem dX8_goesOn_12 : decode cX8_goesOn 12 = .ok (.istore_n 3, 1) := by decide +kernel
theorem dX8_goesOn_13 : decode cX8_goesOn 13 = .ok (.iload_n 3, 1) := by decide +kernel
theorem dX8_goesOn_14 : decode cX8_goesOn 14 = .ok (.bipush 16, 2) := by decide +kernel
theorem dX8_goesOn_16 : decode cX8_goesOn 16 = .ok (.if_icmp .ge 53, 3) := by decide +kernel
theorem dX8_goesOn_19 : decode cX8_goesOn 19 = .ok (.aload_n 0, 1) := by decide +kernel
theorem dX8_goesOn_20 : decode cX8_goesOn 20 = .ok (.getfield 10, 3) := by decide +kernel
theorem dX8_goesOn_23 : decode cX8_goesOn 23 = .ok (.iload_n 3, 1) := by decide +kernel
theorem dX8_goesOn_24 : decode cX8_goesOn 24 = .ok (.invokevirtual 154, 3) := by decide +kernel
theorem dX8_goesOn_27 : decode cX8_goesOn 27 = .ok (.astore 4, 2) := by decide +kernel
theorem dX8_goesOn_29 : decode cX8_goesOn 29 = .ok (.aload 4, 2) := by decide +kernel
theorem dX8_goesOn_31 : decode cX8_goesOn 31 = .ok (.ifnull 32, 3) := by decide +kernel
theorem dX8_goesOn_34 : decode cX8_goesOn 34 = .ok (.aload 4, 2) := by decide +kernel
theorem dX8_goesOn_36 : decode cX8_goesOn 36 = .ok (.getfield 171, 3) := by decide +kernel
theorem dX8_goesOn_39 : decode cX8_goesOn 39 = .ok (.ifCond .eq 24, 3) := by decide +kernel
theorem dX8_goesOn_42 : decode cX8_goesOn 42 = .ok (.aload 4, 2) := by decide +kernel
theorem dX8_goesOn_44 : decode cX8_goesOn 44 = .ok (.getfield 135, 3) := by decide +kernel
theorem dX8_goesOn_47 : decode cX8_goesOn 47 = .ok (.iload_n 1, 1) := by decide +kernel
theorem dX8_goesOn_48 : decode cX8_goesOn 48 = .ok (.if_icmp .ne 15, 3) := by decide +kernel
theorem dX8_goesOn_51 : decode cX8_goesOn 51 = .ok (.aload_n 0, 1) := by decide +kernel
theorem dX8_goesOn_52 : decode cX8_goesOn 52 = .ok (.getfield 10, 3) := by decide +kernel
theorem dX8_goesOn_55 : decode cX8_goesOn 55 = .ok (.aload 4, 2) := by decide +kernel
theorem dX8_goesOn_57 : decode cX8_goesOn 57 = .ok (.invokevirtual 180, 3) := by decide +kernel
theorem dX8_goesOn_60 : decode cX8_goesOn 60 = .ok (.iinc 2 1, 3) := by decide +kernel
theorem dX8_goesOn_63 : decode cX8_goesOn 63 = .ok (.iinc 3 1, 3) := by decide +kernel
theorem dX8_goesOn_66 : decode cX8_goesOn 66 = .ok (.goto (-53), 3) := by decide +kernel
theorem dX8_goesOn_69 : decode cX8_goesOn 69 = .ok (.iload_n 2, 1) := by decide +kernel
theorem dX8_goesOn_70 : decode cX8_goesOn 70 = .ok (.ireturn, 1) := by decide +kernel
theorem dX8_spreads_0 : decode cX8_spreads 0 = .ok (.iload_n 1, 1) := by decide +kernel
theorem dX8_spreads_1 : decode cX8_spreads 1 = .ok (.invokestatic 115, 3) := by decide +kernel
theorem dX8_spreads_4 : decode cX8_spreads 4 = .ok (.ifCond .eq 14, 3) := by decide +kernel
theorem dX8_spreads_7 : decode cX8_spreads 7 = .ok (.iload_n 2, 1) := by decide +kernel
theorem dX8_spreads_8 : decode cX8_spreads 8 = .ok (.iconst 0, 1) := by decide +kernel
theorem dX8_spreads_9 : decode cX8_spreads 9 = .ok (.sipush 1000, 3) := by decide +kernel
theorem dX8_spreads_12 : decode cX8_spreads 12 = .ok (.invokestatic 79, 3) := by decide +kernel
theorem dX8_spreads_15 : decode cX8_spreads 15 = .ok (.ifCond .ne 5, 3) := by decide +kernel
theorem dX8_spreads_18 : decode cX8_spreads 18 = .ok (.iconst (-1), 1) := by decide +kernel
theorem dX8_spreads_19 : decode cX8_spreads 19 = .ok (.ireturn, 1) := by decide +kernel
theorem dX8_spreads_20 : decode cX8_spreads 20 = .ok (.aload_n 0, 1) := by decide +kernel
theorem dX8_spreads_21 : decode cX8_spreads 21 = .ok (.getfield 10, 3) := by decide +kernel
theorem dX8_spreads_24 : decode cX8_spreads 24 = .ok (.getfield 189, 3) := by decide +kernel
theorem dX8_spreads_27 : decode cX8_spreads 27 = .ok (.astore_n 3, 1) := by decide +kernel
theorem dX8_spreads_28 : decode cX8_spreads 28 = .ok (.aload_n 3, 1) := by decide +kernel
theorem dX8_spreads_29 : decode cX8_spreads 29 = .ok (.invokevirtual 193, 3) := by decide +kernel
theorem dX8_spreads_32 : decode cX8_spreads 32 = .ok (.iconst 0, 1) := by decide +kernel
theorem dX8_spreads_33 : decode cX8_spreads 33 = .ok (.istore 4, 2) := by decide +kernel
theorem dX8_spreads_35 : decode cX8_spreads 35 = .ok (.iload 4, 2) := by decide +kernel
theorem dX8_spreads_37 : decode cX8_spreads 37 = .ok (.bipush 16, 2) := by decide +kernel
theorem dX8_spreads_39 : decode cX8_spreads 39 = .ok (.if_icmp .ge 48, 3) := by decide +kernel
theorem dX8_spreads_42 : decode cX8_spreads 42 = .ok (.aload_n 0, 1) := by decide +kernel
theorem dX8_spreads_43 : decode cX8_spreads 43 = .ok (.getfield 10, 3) := by decide +kernel
theorem dX8_spreads_46 : decode cX8_spreads 46 = .ok (.iload 4, 2) := by decide +kernel
theorem dX8_spreads_48 : decode cX8_spreads 48 = .ok (.invokevirtual 186, 3) := by decide +kernel
theorem dX8_spreads_51 : decode cX8_spreads 51 = .ok (.astore 5, 2) := by decide +kernel
theorem dX8_spreads_53 : decode cX8_spreads 53 = .ok (.aload 5, 2) := by decide +kernel
theorem dX8_spreads_55 : decode cX8_spreads 55 = .ok (.ifnull 26, 3) := by decide +kernel
theorem dX8_spreads_58 : decode cX8_spreads 58 = .ok (.aload 5, 2) := by decide +kernel
theorem dX8_spreads_60 : decode cX8_spreads 60 = .ok (.getfield 135, 3) := by decide +kernel
theorem dX8_spreads_63 : decode cX8_spreads 63 = .ok (.iload_n 1, 1) := by decide +kernel
theorem dX8_spreads_64 : decode cX8_spreads 64 = .ok (.if_icmp .ne 17, 3) := by decide +kernel
theorem dX8_spreads_67 : decode cX8_spreads 67 = .ok (.aload_n 3, 1) := by decide +kernel
theorem dX8_spreads_68 : decode cX8_spreads 68 = .ok (.aload 5, 2) := by decide +kernel
theorem dX8_spreads_70 : decode cX8_spreads 70 = .ok (.iconst 1, 1) := by decide +kernel
theorem dX8_spreads_71 : decode cX8_spreads 71 = .ok (.aload_n 0, 1) := by decide +kernel
theorem dX8_spreads_72 : decode cX8_spreads 72 = .ok (.getfield 10, 3) := by decide +kernel
theorem dX8_spreads_75 : decode cX8_spreads 75 = .ok (.getfield 83, 3) := by decide +kernel
theorem dX8_spreads_78 : decode cX8_spreads 78 = .ok (.invokevirtual 198, 3) := by decide +kernel
theorem dX8_spreads_81 : decode cX8_spreads 81 = .ok (.iinc 4 1, 3) := by decide +kernel
theorem dX8_spreads_84 : decode cX8_spreads 84 = .ok (.goto (-49), 3) := by decide +kernel
theorem dX8_spreads_87 : decode cX8_spreads 87 = .ok (.aload_n 3, 1) := by decide +kernel
theorem dX8_spreads_88 : decode cX8_spreads 88 = .ok (.getfield 202, 3) := by decide +kernel
theorem dX8_spreads_91 : decode cX8_spreads 91 = .ok (.iconst 2, 1) := by decide +kernel
theorem dX8_spreads_92 : decode cX8_spreads 92 = .ok (.if_icmp .ge 6, 3) := by decide +kernel
theorem dX8_spreads_95 : decode cX8_spreads 95 = .ok (.bipush (-2), 2) := by decide +kernel
theorem dX8_spreads_97 : decode cX8_spreads 97 = .ok (.ireturn, 1) := by decide +kernel
theorem dX8_spreads_98 : decode cX8_spreads 98 = .ok (.aload_n 0, 1) := by decide +kernel
theorem dX8_spreads_99 : decode cX8_spreads 99 = .ok (.aload_n 3, 1) := by decide +kernel
theorem dX8_spreads_100 : decode cX8_spreads 100 = .ok (.iload_n 2, 1) := by decide +kernel
theorem dX8_spreads_101 : decode cX8_spreads 101 = .ok (.invokevirtual 205, 3) := by decide +kernel
theorem dX8_spreads_104 : decode cX8_spreads 104 = .ok (.ireturn, 1) := by decide +kernel
theorem dX8_delays_0 : decode cX8_delays 0 = .ok (.aload_n 0, 1) := by decide +kernel
theorem dX8_delays_1 : decode cX8_delays 1 = .ok (.getfield 10, 3) := by decide +kernel
theorem dX8_delays_4 : decode cX8_delays 4 = .ok (.iload_n 1, 1) := by decide +kernel
theorem dX8_delays_5 : decode cX8_delays 5 = .ok (.invokevirtual 154, 3) := by decide +kernel
theorem dX8_delays_8 : decode cX8_delays 8 = .ok (.astore_n 3, 1) := by decide +kernel
theorem dX8_delays_9 : decode cX8_delays 9 = .ok (.aload_n 3, 1) := by decide +kernel
theorem dX8_delays_10 : decode cX8_delays 10 = .ok (.ifnull 13, 3) := by decide +kernel
theorem dX8_delays_13 : decode cX8_delays 13 = .ok (.iload_n 2, 1) := by decide +kernel
theorem dX8_delays_14 : decode cX8_delays 14 = .ok (.iconst 1, 1) := by decide +kernel
theorem dX8_delays_15 : decode cX8_delays 15 = .ok (.ldc 114, 2) := by decide +kernel
theorem dX8_delays_17 : decode cX8_delays 17 = .ok (.invokestatic 79, 3) := by decide +kernel
theorem dX8_delays_20 : decode cX8_delays 20 = .ok (.ifCond .ne 5, 3) := by decide +kernel
theorem dX8_delays_23 : decode cX8_delays 23 = .ok (.iconst (-1), 1) := by decide +kernel
theorem dX8_delays_24 : decode cX8_delays 24 = .ok (.ireturn, 1) := by decide +kernel
theorem dX8_delays_25 : decode cX8_delays 25 = .ok (.aload_n 3, 1) := by decide +kernel
theorem dX8_delays_26 : decode cX8_delays 26 = .ok (.getfield 171, 3) := by decide +kernel
theorem dX8_delays_29 : decode cX8_delays 29 = .ok (.ifCond .eq 10, 3) := by decide +kernel
theorem dX8_delays_32 : decode cX8_delays 32 = .ok (.aload_n 3, 1) := by decide +kernel
theorem dX8_delays_33 : decode cX8_delays 33 = .ok (.getfield 177, 3) := by decide +kernel
theorem dX8_delays_36 : decode cX8_delays 36 = .ok (.goto 15, 3) := by decide +kernel
theorem dX8_delays_39 : decode cX8_delays 39 = .ok (.aload_n 3, 1) := by decide +kernel
theorem dX8_delays_40 : decode cX8_delays 40 = .ok (.getfield 183, 3) := by decide +kernel
theorem dX8_delays_43 : decode cX8_delays 43 = .ok (.aload_n 0, 1) := by decide +kernel
theorem dX8_delays_44 : decode cX8_delays 44 = .ok (.getfield 10, 3) := by decide +kernel
theorem dX8_delays_47 : decode cX8_delays 47 = .ok (.getfield 123, 3) := by decide +kernel
theorem dX8_delays_50 : decode cX8_delays 50 = .ok (.isub, 1) := by decide +kernel
theorem dX8_delays_51 : decode cX8_delays 51 = .ok (.istore 4, 2) := by decide +kernel
theorem dX8_delays_53 : decode cX8_delays 53 = .ok (.iload 4, 2) := by decide +kernel
theorem dX8_delays_55 : decode cX8_delays 55 = .ok (.iload_n 2, 1) := by decide +kernel
theorem dX8_delays_56 : decode cX8_delays 56 = .ok (.if_icmp .ne 6, 3) := by decide +kernel
theorem dX8_delays_59 : decode cX8_delays 59 = .ok (.bipush (-2), 2) := by decide +kernel
theorem dX8_delays_61 : decode cX8_delays 61 = .ok (.ireturn, 1) := by decide +kernel
theorem dX8_delays_62 : decode cX8_delays 62 = .ok (.aload_n 3, 1) := by decide +kernel
theorem dX8_delays_63 : decode cX8_delays 63 = .ok (.getfield 171, 3) := by decide +kernel
theorem dX8_delays_66 : decode cX8_delays 66 = .ok (.ifCond .eq 11, 3) := by decide +kernel
theorem dX8_delays_69 : decode cX8_delays 69 = .ok (.aload_n 3, 1) := by decide +kernel
theorem dX8_delays_70 : decode cX8_delays 70 = .ok (.iload_n 2, 1) := by decide +kernel
theorem dX8_delays_71 : decode cX8_delays 71 = .ok (.putfield 177, 3) := by decide +kernel
theorem dX8_delays_74 : decode cX8_delays 74 = .ok (.goto 24, 3) := by decide +kernel
theorem dX8_delays_77 : decode cX8_delays 77 = .ok (.aload_n 3, 1) := by decide +kernel
theorem dX8_delays_78 : decode cX8_delays 78 = .ok (.aload_n 0, 1) := by decide +kernel
theorem dX8_delays_79 : decode cX8_delays 79 = .ok (.getfield 10, 3) := by decide +kernel
theorem dX8_delays_82 : decode cX8_delays 82 = .ok (.getfield 123, 3) := by decide +kernel
theorem dX8_delays_85 : decode cX8_delays 85 = .ok (.iload_n 2, 1) := by decide +kernel
theorem dX8_delays_86 : decode cX8_delays 86 = .ok (.iadd, 1) := by decide +kernel
theorem dX8_delays_87 : decode cX8_delays 87 = .ok (.putfield 183, 3) := by decide +kernel
theorem dX8_delays_90 : decode cX8_delays 90 = .ok (.aload_n 0, 1) := by decide +kernel
theorem dX8_delays_91 : decode cX8_delays 91 = .ok (.getfield 10, 3) := by decide +kernel
theorem dX8_delays_94 : decode cX8_delays 94 = .ok (.aload_n 3, 1) := by decide +kernel
theorem dX8_delays_95 : decode cX8_delays 95 = .ok (.invokevirtual 147, 3) := by decide +kernel
theorem dX8_delays_98 : decode cX8_delays 98 = .ok (.aload_n 0, 1) := by decide +kernel
theorem dX8_delays_99 : decode cX8_delays 99 = .ok (.getfield 33, 3) := by decide +kernel
theorem dX8_delays_102 : decode cX8_delays 102 = .ok (.invokevirtual 209, 3) := by decide +kernel
theorem dX8_delays_105 : decode cX8_delays 105 = .ok (.aload_n 0, 1) := by decide +kernel
theorem dX8_delays_106 : decode cX8_delays 106 = .ok (.getfield 33, 3) := by decide +kernel
theorem dX8_delays_109 : decode cX8_delays 109 = .ok (.iload_n 2, 1) := by decide +kernel
theorem dX8_delays_110 : decode cX8_delays 110 = .ok (.iload 4, 2) := by decide +kernel
theorem dX8_delays_112 : decode cX8_delays 112 = .ok (.isub, 1) := by decide +kernel
theorem dX8_delays_113 : decode cX8_delays 113 = .ok (.i2l, 1) := by decide +kernel
theorem dX8_delays_114 : decode cX8_delays 114 = .ok (.invokevirtual 210, 3) := by decide +kernel
theorem dX8_delays_117 : decode cX8_delays 117 = .ok (.iconst 0, 1) := by decide +kernel
theorem dX8_delays_118 : decode cX8_delays 118 = .ok (.ireturn, 1) := by decide +kernel
theorem dX8_run_0 : decode cX8_run 0 = .ok (.aload_n 0, 1) := by decide +kernel
theorem dX8_run_1 : decode cX8_run 1 = .ok (.getfield 54, 3) := by decide +kernel
theorem dX8_run_4 : decode cX8_run 4 = .ok (.aload_n 0, 1) := by decide +kernel
theorem dX8_run_5 : decode cX8_run 5 = .ok (.getfield 47, 3) := by decide +kernel
theorem dX8_run_8 : decode cX8_run 8 = .ok (.invokevirtual 214, 3) := by decide +kernel
theorem dX8_run_11 : decode cX8_run 11 = .ok (.istore_n 1, 1) := by decide +kernel
theorem dX8_run_12 : decode cX8_run 12 = .ok (.aload_n 0, 1) := by decide +kernel
theorem dX8_run_13 : decode cX8_run 13 = .ok (.getfield 47, 3) := by decide +kernel
theorem dX8_run_16 : decode cX8_run 16 = .ok (.iconst 0, 1) := by decide +kernel
theorem dX8_run_17 : decode cX8_run 17 = .ok (.invokevirtual 218, 3) := by decide +kernel
theorem dX8_run_20 : decode cX8_run 20 = .ok (.iload_n 1, 1) := by decide +kernel
theorem dX8_run_21 : decode cX8_run 21 = .ok (.ifCond .ne 13, 3) := by decide +kernel
theorem dX8_run_24 : decode cX8_run 24 = .ok (.iconst (-1), 1) := by decide +kernel
theorem dX8_run_25 : decode cX8_run 25 = .ok (.aload_n 0, 1) := by decide +kernel
theorem dX8_run_26 : decode cX8_run 26 = .ok (.getfield 54, 3) := by decide +kernel
theorem dX8_run_29 : decode cX8_run 29 = .ok (.getfield 221, 3) := by decide +kernel
theorem dX8_run_32 : decode cX8_run 32 = .ok (.isub, 1) := by decide +kernel
theorem dX8_run_33 : decode cX8_run 33 = .ok (.ireturn, 1) := by decide +kernel
theorem dX8_run_34 : decode cX8_run 34 = .ok (.aload_n 0, 1) := by decide +kernel
theorem dX8_run_35 : decode cX8_run 35 = .ok (.getfield 40, 3) := by decide +kernel
theorem dX8_run_38 : decode cX8_run 38 = .ok (.getfield 224, 3) := by decide +kernel
theorem dX8_run_41 : decode cX8_run 41 = .ok (.istore_n 2, 1) := by decide +kernel
theorem dX8_run_42 : decode cX8_run 42 = .ok (.iconst 0, 1) := by decide +kernel
theorem dX8_run_43 : decode cX8_run 43 = .ok (.istore_n 3, 1) := by decide +kernel
theorem dX8_run_44 : decode cX8_run 44 = .ok (.iload_n 3, 1) := by decide +kernel
theorem dX8_run_45 : decode cX8_run 45 = .ok (.aload_n 0, 1) := by decide +kernel
theorem dX8_run_46 : decode cX8_run 46 = .ok (.getfield 54, 3) := by decide +kernel
theorem dX8_run_49 : decode cX8_run 49 = .ok (.getfield 227, 3) := by decide +kernel
theorem dX8_run_52 : decode cX8_run 52 = .ok (.if_icmp .ge 17, 3) := by decide +kernel
theorem dX8_run_55 : decode cX8_run 55 = .ok (.aload_n 0, 1) := by decide +kernel
theorem dX8_run_56 : decode cX8_run 56 = .ok (.iload_n 3, 1) := by decide +kernel
theorem dX8_run_57 : decode cX8_run 57 = .ok (.invokevirtual 228, 3) := by decide +kernel
theorem dX8_run_60 : decode cX8_run 60 = .ok (.ifCond .eq 9, 3) := by decide +kernel
theorem dX8_run_63 : decode cX8_run 63 = .ok (.iinc 3 1, 3) := by decide +kernel
theorem dX8_run_66 : decode cX8_run 66 = .ok (.goto (-22), 3) := by decide +kernel
theorem dX8_run_69 : decode cX8_run 69 = .ok (.aload_n 0, 1) := by decide +kernel
theorem dX8_run_70 : decode cX8_run 70 = .ok (.getfield 33, 3) := by decide +kernel
theorem dX8_run_73 : decode cX8_run 73 = .ok (.invokevirtual 209, 3) := by decide +kernel
theorem dX8_run_76 : decode cX8_run 76 = .ok (.aload_n 0, 1) := by decide +kernel
theorem dX8_run_77 : decode cX8_run 77 = .ok (.getfield 33, 3) := by decide +kernel
theorem dX8_run_80 : decode cX8_run 80 = .ok (.iload_n 3, 1) := by decide +kernel
theorem dX8_run_81 : decode cX8_run 81 = .ok (.aload_n 0, 1) := by decide +kernel
theorem dX8_run_82 : decode cX8_run 82 = .ok (.getfield 54, 3) := by decide +kernel
theorem dX8_run_85 : decode cX8_run 85 = .ok (.getfield 227, 3) := by decide +kernel
theorem dX8_run_88 : decode cX8_run 88 = .ok (.if_icmp .ge 7, 3) := by decide +kernel
theorem dX8_run_91 : decode cX8_run 91 = .ok (.lconst 1, 1) := by decide +kernel
theorem dX8_run_92 : decode cX8_run 92 = .ok (.goto 4, 3) := by decide +kernel
theorem dX8_run_95 : decode cX8_run 95 = .ok (.lconst 0, 1) := by decide +kernel
theorem dX8_run_96 : decode cX8_run 96 = .ok (.invokevirtual 210, 3) := by decide +kernel
theorem dX8_run_99 : decode cX8_run 99 = .ok (.aload_n 0, 1) := by decide +kernel
theorem dX8_run_100 : decode cX8_run 100 = .ok (.getfield 33, 3) := by decide +kernel
theorem dX8_run_103 : decode cX8_run 103 = .ok (.aload_n 0, 1) := by decide +kernel
theorem dX8_run_104 : decode cX8_run 104 = .ok (.getfield 40, 3) := by decide +kernel
theorem dX8_run_107 : decode cX8_run 107 = .ok (.getfield 224, 3) := by decide +kernel
theorem dX8_run_110 : decode cX8_run 110 = .ok (.iload_n 2, 1) := by decide +kernel
theorem dX8_run_111 : decode cX8_run 111 = .ok (.isub, 1) := by decide +kernel
theorem dX8_run_112 : decode cX8_run 112 = .ok (.i2l, 1) := by decide +kernel
theorem dX8_run_113 : decode cX8_run 113 = .ok (.invokevirtual 210, 3) := by decide +kernel
theorem dX8_run_116 : decode cX8_run 116 = .ok (.iload_n 3, 1) := by decide +kernel
theorem dX8_run_117 : decode cX8_run 117 = .ok (.ireturn, 1) := by decide +kernel
theorem dX8_sign_0 : decode cX8_sign 0 = .ok (.aload_n 0, 1) := by decide +kernel
theorem dX8_sign_1 : decode cX8_sign 1 = .ok (.getfield 47, 3) := by decide +kernel
theorem dX8_sign_4 : decode cX8_sign 4 = .ok (.iload_n 1, 1) := by decide +kernel
theorem dX8_sign_5 : decode cX8_sign 5 = .ok (.invokevirtual 231, 3) := by decide +kernel
theorem dX8_sign_8 : decode cX8_sign 8 = .ok (.ifCond .eq 13, 3) := by decide +kernel
theorem dX8_sign_11 : decode cX8_sign 11 = .ok (.aload_n 0, 1) := by decide +kernel
theorem dX8_sign_12 : decode cX8_sign 12 = .ok (.getfield 47, 3) := by decide +kernel
theorem dX8_sign_15 : decode cX8_sign 15 = .ok (.getfield 234, 3) := by decide +kernel
theorem dX8_sign_18 : decode cX8_sign 18 = .ok (.goto 4, 3) := by decide +kernel
theorem dX8_sign_21 : decode cX8_sign 21 = .ok (.iconst (-1), 1) := by decide +kernel
theorem dX8_sign_22 : decode cX8_sign 22 = .ok (.ireturn, 1) := by decide +kernel
theorem dX8_end_0 : decode cX8_end 0 = .ok (.iload_n 1, 1) := by decide +kernel
theorem dX8_end_1 : decode cX8_end 1 = .ok (.iconst 0, 1) := by decide +kernel
theorem dX8_end_2 : decode cX8_end 2 = .ok (.aload_n 0, 1) := by decide +kernel
theorem dX8_end_3 : decode cX8_end 3 = .ok (.getfield 47, 3) := by decide +kernel
theorem dX8_end_6 : decode cX8_end 6 = .ok (.getfield 234, 3) := by decide +kernel
theorem dX8_end_9 : decode cX8_end 9 = .ok (.invokestatic 79, 3) := by decide +kernel
theorem dX8_end_12 : decode cX8_end 12 = .ok (.ifCond .ne 5, 3) := by decide +kernel
theorem dX8_end_15 : decode cX8_end 15 = .ok (.iconst 0, 1) := by decide +kernel
theorem dX8_end_16 : decode cX8_end 16 = .ok (.ireturn, 1) := by decide +kernel
theorem dX8_end_17 : decode cX8_end 17 = .ok (.aload_n 0, 1) := by decide +kernel
theorem dX8_end_18 : decode cX8_end 18 = .ok (.getfield 47, 3) := by decide +kernel
theorem dX8_end_21 : decode cX8_end 21 = .ok (.iload_n 1, 1) := by decide +kernel
theorem dX8_end_22 : decode cX8_end 22 = .ok (.invokevirtual 218, 3) := by decide +kernel
theorem dX8_end_25 : decode cX8_end 25 = .ok (.iconst 1, 1) := by decide +kernel
theorem dX8_end_26 : decode cX8_end 26 = .ok (.ireturn, 1) := by decide +kernel
theorem dX8_timer_0 : decode cX8_timer 0 = .ok (.aload_n 0, 1) := by decide +kernel
theorem dX8_timer_1 : decode cX8_timer 1 = .ok (.getfield 10, 3) := by decide +kernel
theorem dX8_timer_4 : decode cX8_timer 4 = .ok (.iload_n 1, 1) := by decide +kernel
theorem dX8_timer_5 : decode cX8_timer 5 = .ok (.invokevirtual 154, 3) := by decide +kernel
theorem dX8_timer_8 : decode cX8_timer 8 = .ok (.astore_n 3, 1) := by decide +kernel
theorem dX8_timer_9 : decode cX8_timer 9 = .ok (.aload_n 3, 1) := by decide +kernel
theorem dX8_timer_10 : decode cX8_timer 10 = .ok (.ifnull 13, 3) := by decide +kernel
theorem dX8_timer_13 : decode cX8_timer 13 = .ok (.iload_n 2, 1) := by decide +kernel
theorem dX8_timer_14 : decode cX8_timer 14 = .ok (.iconst 0, 1) := by decide +kernel
theorem dX8_timer_15 : decode cX8_timer 15 = .ok (.bipush 10, 2) := by decide +kernel
theorem dX8_timer_17 : decode cX8_timer 17 = .ok (.invokestatic 79, 3) := by decide +kernel
theorem dX8_timer_20 : decode cX8_timer 20 = .ok (.ifCond .ne 11, 3) := by decide +kernel
theorem dX8_timer_23 : decode cX8_timer 23 = .ok (.new 235, 3) := by decide +kernel
theorem dX8_timer_26 : decode cX8_timer 26 = .ok (.dup, 1) := by decide +kernel
theorem dX8_timer_27 : decode cX8_timer 27 = .ok (.invokespecial 237, 3) := by decide +kernel
theorem dX8_timer_30 : decode cX8_timer 30 = .ok (.athrow, 1) := by decide +kernel
theorem dX8_timer_31 : decode cX8_timer 31 = .ok (.iload_n 2, 1) := by decide +kernel
theorem dX8_timer_32 : decode cX8_timer 32 = .ok (.tableswitch 136 0 9 #[56, 83, 88, 93, 98, 103, 108, 113, 118, 123], 56) := by decide +kernel
theorem dX8_timer_88 : decode cX8_timer 88 = .ok (.aload_n 3, 1) := by decide +kernel
theorem dX8_timer_89 : decode cX8_timer 89 = .ok (.getfield 171, 3) := by decide +kernel
theorem dX8_timer_92 : decode cX8_timer 92 = .ok (.ifCond .eq 18, 3) := by decide +kernel
theorem dX8_timer_95 : decode cX8_timer 95 = .ok (.aload_n 0, 1) := by decide +kernel
theorem dX8_timer_96 : decode cX8_timer 96 = .ok (.getfield 10, 3) := by decide +kernel
theorem dX8_timer_99 : decode cX8_timer 99 = .ok (.getfield 123, 3) := by decide +kernel
theorem dX8_timer_102 : decode cX8_timer 102 = .ok (.aload_n 3, 1) := by decide +kernel
theorem dX8_timer_103 : decode cX8_timer 103 = .ok (.getfield 177, 3) := by decide +kernel
theorem dX8_timer_106 : decode cX8_timer 106 = .ok (.iadd, 1) := by decide +kernel
theorem dX8_timer_107 : decode cX8_timer 107 = .ok (.goto 7, 3) := by decide +kernel
theorem dX8_timer_110 : decode cX8_timer 110 = .ok (.aload_n 3, 1) := by decide +kernel
theorem dX8_timer_111 : decode cX8_timer 111 = .ok (.getfield 183, 3) := by decide +kernel
theorem dX8_timer_114 : decode cX8_timer 114 = .ok (.ireturn, 1) := by decide +kernel
theorem dX8_timer_115 : decode cX8_timer 115 = .ok (.aload_n 3, 1) := by decide +kernel
theorem dX8_timer_116 : decode cX8_timer 116 = .ok (.getfield 238, 3) := by decide +kernel
theorem dX8_timer_119 : decode cX8_timer 119 = .ok (.ireturn, 1) := by decide +kernel
theorem dX8_timer_120 : decode cX8_timer 120 = .ok (.aload_n 3, 1) := by decide +kernel
theorem dX8_timer_121 : decode cX8_timer 121 = .ok (.getfield 241, 3) := by decide +kernel
theorem dX8_timer_124 : decode cX8_timer 124 = .ok (.ireturn, 1) := by decide +kernel
theorem dX8_timer_125 : decode cX8_timer 125 = .ok (.aload_n 3, 1) := by decide +kernel
theorem dX8_timer_126 : decode cX8_timer 126 = .ok (.getfield 244, 3) := by decide +kernel
theorem dX8_timer_129 : decode cX8_timer 129 = .ok (.ireturn, 1) := by decide +kernel
theorem dX8_timer_130 : decode cX8_timer 130 = .ok (.aload_n 3, 1) := by decide +kernel
theorem dX8_timer_131 : decode cX8_timer 131 = .ok (.getfield 135, 3) := by decide +kernel
theorem dX8_timer_134 : decode cX8_timer 134 = .ok (.ireturn, 1) := by decide +kernel
theorem dX8_timer_135 : decode cX8_timer 135 = .ok (.aload_n 3, 1) := by decide +kernel
theorem dX8_timer_136 : decode cX8_timer 136 = .ok (.getfield 138, 3) := by decide +kernel
theorem dX8_timer_139 : decode cX8_timer 139 = .ok (.ireturn, 1) := by decide +kernel
theorem dX8_timer_140 : decode cX8_timer 140 = .ok (.aload_n 3, 1) := by decide +kernel
theorem dX8_timer_141 : decode cX8_timer 141 = .ok (.getfield 141, 3) := by decide +kernel
theorem dX8_timer_144 : decode cX8_timer 144 = .ok (.ireturn, 1) := by decide +kernel
theorem dX8_timer_145 : decode cX8_timer 145 = .ok (.aload_n 3, 1) := by decide +kernel
theorem dX8_timer_146 : decode cX8_timer 146 = .ok (.getfield 144, 3) := by decide +kernel
theorem dX8_timer_149 : decode cX8_timer 149 = .ok (.ireturn, 1) := by decide +kernel
theorem dX8_timer_150 : decode cX8_timer 150 = .ok (.aload_n 3, 1) := by decide +kernel
theorem dX8_timer_151 : decode cX8_timer 151 = .ok (.getfield 247, 3) := by decide +kernel
theorem dX8_timer_154 : decode cX8_timer 154 = .ok (.ireturn, 1) := by decide +kernel
theorem dX8_timer_155 : decode cX8_timer 155 = .ok (.aload_n 3, 1) := by decide +kernel
theorem dX8_timer_156 : decode cX8_timer 156 = .ok (.getfield 168, 3) := by decide +kernel
theorem dX8_timer_159 : decode cX8_timer 159 = .ok (.ifCond .eq 7, 3) := by decide +kernel
theorem dX8_timer_162 : decode cX8_timer 162 = .ok (.iconst 1, 1) := by decide +kernel
theorem dX8_timer_163 : decode cX8_timer 163 = .ok (.goto 4, 3) := by decide +kernel
theorem dX8_timer_166 : decode cX8_timer 166 = .ok (.iconst 0, 1) := by decide +kernel
theorem dX8_timer_167 : decode cX8_timer 167 = .ok (.ireturn, 1) := by decide +kernel
theorem dX8_timer_168 : decode cX8_timer 168 = .ok (.aload_n 3, 1) := by decide +kernel
theorem dX8_timer_169 : decode cX8_timer 169 = .ok (.getfield 171, 3) := by decide +kernel
theorem dX8_timer_172 : decode cX8_timer 172 = .ok (.ifCond .eq 10, 3) := by decide +kernel
theorem dX8_timer_175 : decode cX8_timer 175 = .ok (.aload_n 3, 1) := by decide +kernel
theorem dX8_timer_176 : decode cX8_timer 176 = .ok (.getfield 177, 3) := by decide +kernel
theorem dX8_timer_179 : decode cX8_timer 179 = .ok (.goto 4, 3) := by decide +kernel
theorem dX8_timer_182 : decode cX8_timer 182 = .ok (.iconst (-1), 1) := by decide +kernel
theorem dX8_timer_183 : decode cX8_timer 183 = .ok (.ireturn, 1) := by decide +kernel
theorem dX8_slot_0 : decode cX8_slot 0 = .ok (.aload_n 0, 1) := by decide +kernel
theorem dX8_slot_1 : decode cX8_slot 1 = .ok (.getfield 10, 3) := by decide +kernel
theorem dX8_slot_4 : decode cX8_slot 4 = .ok (.getfield 62, 3) := by decide +kernel
theorem dX8_slot_7 : decode cX8_slot 7 = .ok (.iload_n 1, 1) := by decide +kernel
theorem dX8_slot_8 : decode cX8_slot 8 = .ok (.invokevirtual 250, 3) := by decide +kernel
theorem dX8_slot_11 : decode cX8_slot 11 = .ok (.ifCond .eq 24, 3) := by decide +kernel
theorem dX8_slot_14 : decode cX8_slot 14 = .ok (.iload_n 2, 1) := by decide +kernel
theorem dX8_slot_15 : decode cX8_slot 15 = .ok (.iconst 0, 1) := by decide +kernel
theorem dX8_slot_16 : decode cX8_slot 16 = .ok (.aload_n 0, 1) := by decide +kernel
theorem dX8_slot_17 : decode cX8_slot 17 = .ok (.getfield 10, 3) := by decide +kernel
theorem dX8_slot_20 : decode cX8_slot 20 = .ok (.getfield 62, 3) := by decide +kernel
theorem dX8_slot_23 : decode cX8_slot 23 = .ok (.iload_n 1, 1) := by decide +kernel
theorem dX8_slot_24 : decode cX8_slot 24 = .ok (.invokevirtual 253, 3) := by decide +kernel
theorem dX8_slot_27 : decode cX8_slot 27 = .ok (.iconst 1, 1) := by decide +kernel
theorem dX8_slot_28 : decode cX8_slot 28 = .ok (.isub, 1) := by decide +kernel
theorem dX8_slot_29 : decode cX8_slot 29 = .ok (.invokestatic 79, 3) := by decide +kernel
theorem dX8_slot_32 : decode cX8_slot 32 = .ok (.ifCond .ne 5, 3) := by decide +kernel
theorem dX8_slot_35 : decode cX8_slot 35 = .ok (.iconst (-1), 1) := by decide +kernel
theorem dX8_slot_36 : decode cX8_slot 36 = .ok (.ireturn, 1) := by decide +kernel
theorem dX8_slot_37 : decode cX8_slot 37 = .ok (.aload_n 0, 1) := by decide +kernel
theorem dX8_slot_38 : decode cX8_slot 38 = .ok (.getfield 10, 3) := by decide +kernel
theorem dX8_slot_41 : decode cX8_slot 41 = .ok (.getfield 189, 3) := by decide +kernel
theorem dX8_slot_44 : decode cX8_slot 44 = .ok (.astore_n 3, 1) := by decide +kernel
theorem dX8_slot_45 : decode cX8_slot 45 = .ok (.aload_n 3, 1) := by decide +kernel
theorem dX8_slot_46 : decode cX8_slot 46 = .ok (.invokevirtual 193, 3) := by decide +kernel
theorem dX8_slot_49 : decode cX8_slot 49 = .ok (.iconst 0, 1) := by decide +kernel
theorem dX8_slot_50 : decode cX8_slot 50 = .ok (.istore 4, 2) := by decide +kernel
theorem dX8_slot_52 : decode cX8_slot 52 = .ok (.iload 4, 2) := by decide +kernel
theorem dX8_slot_54 : decode cX8_slot 54 = .ok (.bipush 16, 2) := by decide +kernel
theorem dX8_slot_56 : decode cX8_slot 56 = .ok (.if_icmp .ge 57, 3) := by decide +kernel
theorem dX8_slot_59 : decode cX8_slot 59 = .ok (.aload_n 0, 1) := by decide +kernel
theorem dX8_slot_60 : decode cX8_slot 60 = .ok (.getfield 10, 3) := by decide +kernel
theorem dX8_slot_63 : decode cX8_slot 63 = .ok (.iload 4, 2) := by decide +kernel
theorem dX8_slot_65 : decode cX8_slot 65 = .ok (.invokevirtual 154, 3) := by decide +kernel
theorem dX8_slot_68 : decode cX8_slot 68 = .ok (.astore 5, 2) := by decide +kernel
theorem dX8_slot_70 : decode cX8_slot 70 = .ok (.aload 5, 2) := by decide +kernel
theorem dX8_slot_72 : decode cX8_slot 72 = .ok (.ifnull 35, 3) := by decide +kernel
theorem dX8_slot_75 : decode cX8_slot 75 = .ok (.aload 5, 2) := by decide +kernel
theorem dX8_slot_77 : decode cX8_slot 77 = .ok (.getfield 238, 3) := by decide +kernel
theorem dX8_slot_80 : decode cX8_slot 80 = .ok (.iload_n 1, 1) := by decide +kernel
theorem dX8_slot_81 : decode cX8_slot 81 = .ok (.if_icmp .ne 26, 3) := by decide +kernel
theorem dX8_slot_84 : decode cX8_slot 84 = .ok (.aload 5, 2) := by decide +kernel
theorem dX8_slot_86 : decode cX8_slot 86 = .ok (.getfield 241, 3) := by decide +kernel
theorem dX8_slot_89 : decode cX8_slot 89 = .ok (.iload_n 2, 1) := by decide +kernel
theorem dX8_slot_90 : decode cX8_slot 90 = .ok (.if_icmp .ne 17, 3) := by decide +kernel
theorem dX8_slot_93 : decode cX8_slot 93 = .ok (.aload_n 3, 1) := by decide +kernel
theorem dX8_slot_94 : decode cX8_slot 94 = .ok (.aload 5, 2) := by decide +kernel
theorem dX8_slot_96 : decode cX8_slot 96 = .ok (.iconst 0, 1) := by decide +kernel
theorem dX8_slot_97 : decode cX8_slot 97 = .ok (.aload_n 0, 1) := by decide +kernel
theorem dX8_slot_98 : decode cX8_slot 98 = .ok (.getfield 10, 3) := by decide +kernel
theorem dX8_slot_101 : decode cX8_slot 101 = .ok (.getfield 83, 3) := by decide +kernel
theorem dX8_slot_104 : decode cX8_slot 104 = .ok (.invokevirtual 198, 3) := by decide +kernel
theorem dX8_slot_107 : decode cX8_slot 107 = .ok (.iinc 4 1, 3) := by decide +kernel
theorem dX8_slot_110 : decode cX8_slot 110 = .ok (.goto (-58), 3) := by decide +kernel
theorem dX8_slot_113 : decode cX8_slot 113 = .ok (.aload_n 0, 1) := by decide +kernel
theorem dX8_slot_114 : decode cX8_slot 114 = .ok (.aload_n 3, 1) := by decide +kernel
theorem dX8_slot_115 : decode cX8_slot 115 = .ok (.invokevirtual 256, 3) := by decide +kernel
theorem dX8_slot_118 : decode cX8_slot 118 = .ok (.aload_n 3, 1) := by decide +kernel
theorem dX8_slot_119 : decode cX8_slot 119 = .ok (.getfield 202, 3) := by decide +kernel
theorem dX8_slot_122 : decode cX8_slot 122 = .ok (.ireturn, 1) := by decide +kernel
theorem dX8_far_0 : decode cX8_far 0 = .ok (.aload_n 0, 1) := by decide +kernel
theorem dX8_far_1 : decode cX8_far 1 = .ok (.getfield 10, 3) := by decide +kernel
theorem dX8_far_4 : decode cX8_far 4 = .ok (.getfield 189, 3) := by decide +kernel
theorem dX8_far_7 : decode cX8_far 7 = .ok (.astore_n 1, 1) := by decide +kernel
theorem dX8_far_8 : decode cX8_far 8 = .ok (.aload_n 1, 1) := by decide +kernel
theorem dX8_far_9 : decode cX8_far 9 = .ok (.invokevirtual 193, 3) := by decide +kernel
theorem dX8_far_12 : decode cX8_far 12 = .ok (.iconst 0, 1) := by decide +kernel
theorem dX8_far_13 : decode cX8_far 13 = .ok (.istore_n 2, 1) := by decide +kernel
theorem dX8_far_14 : decode cX8_far 14 = .ok (.iload_n 2, 1) := by decide +kernel
theorem dX8_far_15 : decode cX8_far 15 = .ok (.bipush 16, 2) := by decide +kernel
theorem dX8_far_17 : decode cX8_far 17 = .ok (.if_icmp .ge 37, 3) := by decide +kernel
theorem dX8_far_20 : decode cX8_far 20 = .ok (.aload_n 0, 1) := by decide +kernel
theorem dX8_far_21 : decode cX8_far 21 = .ok (.getfield 10, 3) := by decide +kernel
theorem dX8_far_24 : decode cX8_far 24 = .ok (.iload_n 2, 1) := by decide +kernel
theorem dX8_far_25 : decode cX8_far 25 = .ok (.invokevirtual 154, 3) := by decide +kernel
theorem dX8_far_28 : decode cX8_far 28 = .ok (.astore_n 3, 1) := by decide +kernel
theorem dX8_far_29 : decode cX8_far 29 = .ok (.aload_n 3, 1) := by decide +kernel
theorem dX8_far_30 : decode cX8_far 30 = .ok (.ifnull 18, 3) := by decide +kernel
theorem dX8_far_33 : decode cX8_far 33 = .ok (.aload_n 3, 1) := by decide +kernel
theorem dX8_far_34 : decode cX8_far 34 = .ok (.getfield 238, 3) := by decide +kernel
theorem dX8_far_37 : decode cX8_far 37 = .ok (.iconst (-1), 1) := by decide +kernel
theorem dX8_far_38 : decode cX8_far 38 = .ok (.if_icmp .ne 10, 3) := by decide +kernel
theorem dX8_far_41 : decode cX8_far 41 = .ok (.aload_n 1, 1) := by decide +kernel
theorem dX8_far_42 : decode cX8_far 42 = .ok (.aload_n 3, 1) := by decide +kernel
theorem dX8_far_43 : decode cX8_far 43 = .ok (.iconst 1, 1) := by decide +kernel
theorem dX8_far_44 : decode cX8_far 44 = .ok (.iconst 0, 1) := by decide +kernel
theorem dX8_far_45 : decode cX8_far 45 = .ok (.invokevirtual 198, 3) := by decide +kernel
theorem dX8_far_48 : decode cX8_far 48 = .ok (.iinc 2 1, 3) := by decide +kernel
theorem dX8_far_51 : decode cX8_far 51 = .ok (.goto (-37), 3) := by decide +kernel
theorem dX8_far_54 : decode cX8_far 54 = .ok (.aload_n 0, 1) := by decide +kernel
theorem dX8_far_55 : decode cX8_far 55 = .ok (.aload_n 1, 1) := by decide +kernel
theorem dX8_far_56 : decode cX8_far 56 = .ok (.invokevirtual 256, 3) := by decide +kernel
theorem dX8_far_59 : decode cX8_far 59 = .ok (.aload_n 1, 1) := by decide +kernel
theorem dX8_far_60 : decode cX8_far 60 = .ok (.getfield 202, 3) := by decide +kernel
theorem dX8_far_63 : decode cX8_far 63 = .ok (.ireturn, 1) := by decide +kernel
theorem dX8_group_0 : decode cX8_group 0 = .ok (.iload_n 1, 1) := by decide +kernel
theorem dX8_group_1 : decode cX8_group 1 = .ok (.invokestatic 115, 3) := by decide +kernel
theorem dX8_group_4 : decode cX8_group 4 = .ok (.ifCond .ne 5, 3) := by decide +kernel
theorem dX8_group_7 : decode cX8_group 7 = .ok (.iconst (-1), 1) := by decide +kernel
theorem dX8_group_8 : decode cX8_group 8 = .ok (.ireturn, 1) := by decide +kernel
theorem dX8_group_9 : decode cX8_group 9 = .ok (.aload_n 0, 1) := by decide +kernel
theorem dX8_group_10 : decode cX8_group 10 = .ok (.getfield 33, 3) := by decide +kernel
theorem dX8_group_13 : decode cX8_group 13 = .ok (.invokevirtual 209, 3) := by decide +kernel
theorem dX8_group_16 : decode cX8_group 16 = .ok (.iconst 0, 1) := by decide +kernel
theorem dX8_group_17 : decode cX8_group 17 = .ok (.istore_n 2, 1) := by decide +kernel
theorem dX8_group_18 : decode cX8_group 18 = .ok (.iload_n 2, 1) := by decide +kernel
theorem dX8_group_19 : decode cX8_group 19 = .ok (.bipush 16, 2) := by decide +kernel
theorem dX8_group_21 : decode cX8_group 21 = .ok (.if_icmp .ge 39, 3) := by decide +kernel
theorem dX8_group_24 : decode cX8_group 24 = .ok (.aload_n 0, 1) := by decide +kernel
theorem dX8_group_25 : decode cX8_group 25 = .ok (.getfield 10, 3) := by decide +kernel
theorem dX8_group_28 : decode cX8_group 28 = .ok (.iload_n 2, 1) := by decide +kernel
theorem dX8_group_29 : decode cX8_group 29 = .ok (.invokevirtual 154, 3) := by decide +kernel
theorem dX8_group_32 : decode cX8_group 32 = .ok (.astore_n 3, 1) := by decide +kernel
theorem dX8_group_33 : decode cX8_group 33 = .ok (.aload_n 3, 1) := by decide +kernel
theorem dX8_group_34 : decode cX8_group 34 = .ok (.ifnull 20, 3) := by decide +kernel
theorem dX8_group_37 : decode cX8_group 37 = .ok (.aload_n 3, 1) := by decide +kernel
theorem dX8_group_38 : decode cX8_group 38 = .ok (.getfield 135, 3) := by decide +kernel
theorem dX8_group_41 : decode cX8_group 41 = .ok (.iload_n 1, 1) := by decide +kernel
theorem dX8_group_42 : decode cX8_group 42 = .ok (.if_icmp .ne 12, 3) := by decide +kernel
theorem dX8_group_45 : decode cX8_group 45 = .ok (.aload_n 0, 1) := by decide +kernel
theorem dX8_group_46 : decode cX8_group 46 = .ok (.getfield 33, 3) := by decide +kernel
theorem dX8_group_49 : decode cX8_group 49 = .ok (.iload_n 2, 1) := by decide +kernel
theorem dX8_group_50 : decode cX8_group 50 = .ok (.i2l, 1) := by decide +kernel
theorem dX8_group_51 : decode cX8_group 51 = .ok (.invokevirtual 210, 3) := by decide +kernel
theorem dX8_group_54 : decode cX8_group 54 = .ok (.iinc 2 1, 3) := by decide +kernel
theorem dX8_group_57 : decode cX8_group 57 = .ok (.goto (-39), 3) := by decide +kernel
theorem dX8_group_60 : decode cX8_group 60 = .ok (.aload_n 0, 1) := by decide +kernel
theorem dX8_group_61 : decode cX8_group 61 = .ok (.getfield 33, 3) := by decide +kernel
theorem dX8_group_64 : decode cX8_group 64 = .ok (.getfield 260, 3) := by decide +kernel
theorem dX8_group_67 : decode cX8_group 67 = .ok (.ireturn, 1) := by decide +kernel
theorem dX8_full_0 : decode cX8_full 0 = .ok (.aload_n 0, 1) := by decide +kernel
theorem dX8_full_1 : decode cX8_full 1 = .ok (.getfield 10, 3) := by decide +kernel
theorem dX8_full_4 : decode cX8_full 4 = .ok (.getfield 62, 3) := by decide +kernel
theorem dX8_full_7 : decode cX8_full 7 = .ok (.iload_n 1, 1) := by decide +kernel
theorem dX8_full_8 : decode cX8_full 8 = .ok (.invokevirtual 250, 3) := by decide +kernel
theorem dX8_full_11 : decode cX8_full 11 = .ok (.ifCond .ne 5, 3) := by decide +kernel
theorem dX8_full_14 : decode cX8_full 14 = .ok (.iconst (-1), 1) := by decide +kernel
theorem dX8_full_15 : decode cX8_full 15 = .ok (.ireturn, 1) := by decide +kernel
theorem dX8_full_16 : decode cX8_full 16 = .ok (.iconst 0, 1) := by decide +kernel
theorem dX8_full_17 : decode cX8_full 17 = .ok (.istore_n 2, 1) := by decide +kernel
theorem dX8_full_18 : decode cX8_full 18 = .ok (.aload_n 0, 1) := by decide +kernel
theorem dX8_full_19 : decode cX8_full 19 = .ok (.getfield 33, 3) := by decide +kernel
theorem dX8_full_22 : decode cX8_full 22 = .ok (.invokevirtual 209, 3) := by decide +kernel
theorem dX8_full_25 : decode cX8_full 25 = .ok (.iconst 0, 1) := by decide +kernel
theorem dX8_full_26 : decode cX8_full 26 = .ok (.istore_n 3, 1) := by decide +kernel
theorem dX8_full_27 : decode cX8_full 27 = .ok (.iload_n 3, 1) := by decide +kernel
theorem dX8_full_28 : decode cX8_full 28 = .ok (.aload_n 0, 1) := by decide +kernel
theorem dX8_full_29 : decode cX8_full 29 = .ok (.getfield 10, 3) := by decide +kernel
theorem dX8_full_32 : decode cX8_full 32 = .ok (.getfield 62, 3) := by decide +kernel
theorem dX8_full_35 : decode cX8_full 35 = .ok (.iload_n 1, 1) := by decide +kernel
theorem dX8_full_36 : decode cX8_full 36 = .ok (.invokevirtual 253, 3) := by decide +kernel
theorem dX8_full_39 : decode cX8_full 39 = .ok (.if_icmp .ge 39, 3) := by decide +kernel
theorem dX8_full_42 : decode cX8_full 42 = .ok (.aload_n 0, 1) := by decide +kernel
theorem dX8_full_43 : decode cX8_full 43 = .ok (.getfield 10, 3) := by decide +kernel
theorem dX8_full_46 : decode cX8_full 46 = .ok (.iload_n 1, 1) := by decide +kernel
theorem dX8_full_47 : decode cX8_full 47 = .ok (.iload_n 3, 1) := by decide +kernel
theorem dX8_full_48 : decode cX8_full 48 = .ok (.invokevirtual 261, 3) := by decide +kernel
theorem dX8_full_51 : decode cX8_full 51 = .ok (.istore 4, 2) := by decide +kernel
theorem dX8_full_53 : decode cX8_full 53 = .ok (.iload 4, 2) := by decide +kernel
theorem dX8_full_55 : decode cX8_full 55 = .ok (.ifCond .le 12, 3) := by decide +kernel
theorem dX8_full_58 : decode cX8_full 58 = .ok (.aload_n 0, 1) := by decide +kernel
theorem dX8_full_59 : decode cX8_full 59 = .ok (.getfield 33, 3) := by decide +kernel
theorem dX8_full_62 : decode cX8_full 62 = .ok (.iload_n 3, 1) := by decide +kernel
theorem dX8_full_63 : decode cX8_full 63 = .ok (.i2l, 1) := by decide +kernel
theorem dX8_full_64 : decode cX8_full 64 = .ok (.invokevirtual 210, 3) := by decide +kernel
theorem dX8_full_67 : decode cX8_full 67 = .ok (.iload_n 2, 1) := by decide +kernel
theorem dX8_full_68 : decode cX8_full 68 = .ok (.iload 4, 2) := by decide +kernel
theorem dX8_full_70 : decode cX8_full 70 = .ok (.iadd, 1) := by decide +kernel
theorem dX8_full_71 : decode cX8_full 71 = .ok (.istore_n 2, 1) := by decide +kernel
theorem dX8_full_72 : decode cX8_full 72 = .ok (.iinc 3 1, 3) := by decide +kernel
theorem dX8_full_75 : decode cX8_full 75 = .ok (.goto (-48), 3) := by decide +kernel
theorem dX8_full_78 : decode cX8_full 78 = .ok (.aload_n 0, 1) := by decide +kernel
theorem dX8_full_79 : decode cX8_full 79 = .ok (.getfield 33, 3) := by decide +kernel
theorem dX8_full_82 : decode cX8_full 82 = .ok (.getfield 260, 3) := by decide +kernel
theorem dX8_full_85 : decode cX8_full 85 = .ok (.istore_n 3, 1) := by decide +kernel
theorem dX8_full_86 : decode cX8_full 86 = .ok (.aload_n 0, 1) := by decide +kernel
theorem dX8_full_87 : decode cX8_full 87 = .ok (.getfield 33, 3) := by decide +kernel
theorem dX8_full_90 : decode cX8_full 90 = .ok (.iload_n 2, 1) := by decide +kernel
theorem dX8_full_91 : decode cX8_full 91 = .ok (.i2l, 1) := by decide +kernel
theorem dX8_full_92 : decode cX8_full 92 = .ok (.invokevirtual 210, 3) := by decide +kernel
theorem dX8_full_95 : decode cX8_full 95 = .ok (.iload_n 3, 1) := by decide +kernel
theorem dX8_full_96 : decode cX8_full 96 = .ok (.ireturn, 1) := by decide +kernel
theorem dX8_next_0 : decode cX8_next 0 = .ok (.aload_n 0, 1) := by decide +kernel
theorem dX8_next_1 : decode cX8_next 1 = .ok (.getfield 10, 3) := by decide +kernel
theorem dX8_next_4 : decode cX8_next 4 = .ok (.invokevirtual 265, 3) := by decide +kernel
theorem dX8_next_7 : decode cX8_next 7 = .ok (.astore_n 1, 1) := by decide +kernel
theorem dX8_next_8 : decode cX8_next 8 = .ok (.aload_n 1, 1) := by decide +kernel
theorem dX8_next_9 : decode cX8_next 9 = .ok (.ifnonnull 6, 3) := by decide +kernel
theorem dX8_next_12 : decode cX8_next 12 = .ok (.bipush (-2), 2) := by decide +kernel
theorem dX8_next_14 : decode cX8_next 14 = .ok (.ireturn, 1) := by decide +kernel
theorem dX8_next_15 : decode cX8_next 15 = .ok (.aload_n 0, 1) := by decide +kernel
theorem dX8_next_16 : decode cX8_next 16 = .ok (.getfield 10, 3) := by decide +kernel
theorem dX8_next_19 : decode cX8_next 19 = .ok (.getfield 189, 3) := by decide +kernel
theorem dX8_next_22 : decode cX8_next 22 = .ok (.astore_n 2, 1) := by decide +kernel
theorem dX8_next_23 : decode cX8_next 23 = .ok (.aload_n 2, 1) := by decide +kernel
theorem dX8_next_24 : decode cX8_next 24 = .ok (.invokevirtual 193, 3) := by decide +kernel
theorem dX8_next_27 : decode cX8_next 27 = .ok (.iconst 0, 1) := by decide +kernel
theorem dX8_next_28 : decode cX8_next 28 = .ok (.istore_n 3, 1) := by decide +kernel
theorem dX8_next_29 : decode cX8_next 29 = .ok (.iload_n 3, 1) := by decide +kernel
theorem dX8_next_30 : decode cX8_next 30 = .ok (.bipush 16, 2) := by decide +kernel
theorem dX8_next_32 : decode cX8_next 32 = .ok (.if_icmp .ge 50, 3) := by decide +kernel
theorem dX8_next_35 : decode cX8_next 35 = .ok (.aload_n 0, 1) := by decide +kernel
theorem dX8_next_36 : decode cX8_next 36 = .ok (.getfield 10, 3) := by decide +kernel
theorem dX8_next_39 : decode cX8_next 39 = .ok (.iload_n 3, 1) := by decide +kernel
theorem dX8_next_40 : decode cX8_next 40 = .ok (.invokevirtual 186, 3) := by decide +kernel
theorem dX8_next_43 : decode cX8_next 43 = .ok (.astore 4, 2) := by decide +kernel
theorem dX8_next_45 : decode cX8_next 45 = .ok (.aload 4, 2) := by decide +kernel
theorem dX8_next_47 : decode cX8_next 47 = .ok (.ifnull 29, 3) := by decide +kernel
theorem dX8_next_50 : decode cX8_next 50 = .ok (.aload 4, 2) := by decide +kernel
theorem dX8_next_52 : decode cX8_next 52 = .ok (.getfield 183, 3) := by decide +kernel
theorem dX8_next_55 : decode cX8_next 55 = .ok (.aload_n 1, 1) := by decide +kernel
theorem dX8_next_56 : decode cX8_next 56 = .ok (.getfield 183, 3) := by decide +kernel
theorem dX8_next_59 : decode cX8_next 59 = .ok (.if_icmp .ne 17, 3) := by decide +kernel
theorem dX8_next_62 : decode cX8_next 62 = .ok (.aload_n 2, 1) := by decide +kernel
theorem dX8_next_63 : decode cX8_next 63 = .ok (.aload 4, 2) := by decide +kernel
theorem dX8_next_65 : decode cX8_next 65 = .ok (.iconst 0, 1) := by decide +kernel
theorem dX8_next_66 : decode cX8_next 66 = .ok (.aload_n 0, 1) := by decide +kernel
theorem dX8_next_67 : decode cX8_next 67 = .ok (.getfield 10, 3) := by decide +kernel
theorem dX8_next_70 : decode cX8_next 70 = .ok (.getfield 83, 3) := by decide +kernel
theorem dX8_next_73 : decode cX8_next 73 = .ok (.invokevirtual 198, 3) := by decide +kernel
theorem dX8_next_76 : decode cX8_next 76 = .ok (.iinc 3 1, 3) := by decide +kernel
theorem dX8_next_79 : decode cX8_next 79 = .ok (.goto (-50), 3) := by decide +kernel
theorem dX8_next_82 : decode cX8_next 82 = .ok (.aload_n 0, 1) := by decide +kernel
theorem dX8_next_83 : decode cX8_next 83 = .ok (.aload_n 2, 1) := by decide +kernel
theorem dX8_next_84 : decode cX8_next 84 = .ok (.invokevirtual 256, 3) := by decide +kernel
theorem dX8_next_87 : decode cX8_next 87 = .ok (.aload_n 1, 1) := by decide +kernel
theorem dX8_next_88 : decode cX8_next 88 = .ok (.getfield 183, 3) := by decide +kernel
theorem dX8_next_91 : decode cX8_next 91 = .ok (.ireturn, 1) := by decide +kernel
theorem dX8_rings_0 : decode cX8_rings 0 = .ok (.aload_n 0, 1) := by decide +kernel
theorem dX8_rings_1 : decode cX8_rings 1 = .ok (.iload_n 1, 1) := by decide +kernel
theorem dX8_rings_2 : decode cX8_rings 2 = .ok (.invokevirtual 86, 3) := by decide +kernel
theorem dX8_rings_5 : decode cX8_rings 5 = .ok (.istore_n 2, 1) := by decide +kernel
theorem dX8_rings_6 : decode cX8_rings 6 = .ok (.iload_n 2, 1) := by decide +kernel
theorem dX8_rings_7 : decode cX8_rings 7 = .ok (.ifCond .ge 5, 3) := by decide +kernel
theorem dX8_rings_10 : decode cX8_rings 10 = .ok (.iload_n 2, 1) := by decide +kernel
theorem dX8_rings_11 : decode cX8_rings 11 = .ok (.ireturn, 1) := by decide +kernel
theorem dX8_rings_12 : decode cX8_rings 12 = .ok (.aload_n 0, 1) := by decide +kernel
theorem dX8_rings_13 : decode cX8_rings 13 = .ok (.getfield 16, 3) := by decide +kernel
theorem dX8_rings_16 : decode cX8_rings 16 = .ok (.aload_n 0, 1) := by decide +kernel
theorem dX8_rings_17 : decode cX8_rings 17 = .ok (.getfield 10, 3) := by decide +kernel
theorem dX8_rings_20 : decode cX8_rings 20 = .ok (.invokevirtual 268, 3) := by decide +kernel
theorem dX8_rings_23 : decode cX8_rings 23 = .ok (.aload_n 0, 1) := by decide +kernel
theorem dX8_rings_24 : decode cX8_rings 24 = .ok (.getfield 33, 3) := by decide +kernel
theorem dX8_rings_27 : decode cX8_rings 27 = .ok (.invokevirtual 209, 3) := by decide +kernel
theorem dX8_rings_30 : decode cX8_rings 30 = .ok (.iconst 0, 1) := by decide +kernel
theorem dX8_rings_31 : decode cX8_rings 31 = .ok (.istore_n 3, 1) := by decide +kernel
theorem dX8_rings_32 : decode cX8_rings 32 = .ok (.iconst 0, 1) := by decide +kernel
theorem dX8_rings_33 : decode cX8_rings 33 = .ok (.istore 4, 2) := by decide +kernel
theorem dX8_rings_35 : decode cX8_rings 35 = .ok (.iload 4, 2) := by decide +kernel
theorem dX8_rings_37 : decode cX8_rings 37 = .ok (.iload_n 1, 1) := by decide +kernel
theorem dX8_rings_38 : decode cX8_rings 38 = .ok (.if_icmp .ge 37, 3) := by decide +kernel
theorem dX8_rings_41 : decode cX8_rings 41 = .ok (.aload_n 0, 1) := by decide +kernel
theorem dX8_rings_42 : decode cX8_rings 42 = .ok (.getfield 16, 3) := by decide +kernel
theorem dX8_rings_45 : decode cX8_rings 45 = .ok (.invokevirtual 90, 3) := by decide +kernel
theorem dX8_rings_48 : decode cX8_rings 48 = .ok (.aload_n 0, 1) := by decide +kernel
theorem dX8_rings_49 : decode cX8_rings 49 = .ok (.bipush 20, 2) := by decide +kernel
theorem dX8_rings_51 : decode cX8_rings 51 = .ok (.iload_n 3, 1) := by decide +kernel
theorem dX8_rings_52 : decode cX8_rings 52 = .ok (.isub, 1) := by decide +kernel
theorem dX8_rings_53 : decode cX8_rings 53 = .ok (.invokevirtual 272, 3) := by decide +kernel
theorem dX8_rings_56 : decode cX8_rings 56 = .ok (.iload_n 3, 1) := by decide +kernel
theorem dX8_rings_57 : decode cX8_rings 57 = .ok (.aload_n 0, 1) := by decide +kernel
theorem dX8_rings_58 : decode cX8_rings 58 = .ok (.getfield 16, 3) := by decide +kernel
theorem dX8_rings_61 : decode cX8_rings 61 = .ok (.getfield 189, 3) := by decide +kernel
theorem dX8_rings_64 : decode cX8_rings 64 = .ok (.getfield 202, 3) := by decide +kernel
theorem dX8_rings_67 : decode cX8_rings 67 = .ok (.iadd, 1) := by decide +kernel
theorem dX8_rings_68 : decode cX8_rings 68 = .ok (.istore_n 3, 1) := by decide +kernel
theorem dX8_rings_69 : decode cX8_rings 69 = .ok (.iinc 4 1, 3) := by decide +kernel
theorem dX8_rings_72 : decode cX8_rings 72 = .ok (.goto (-37), 3) := by decide +kernel
theorem dX8_rings_75 : decode cX8_rings 75 = .ok (.iload_n 3, 1) := by decide +kernel
theorem dX8_rings_76 : decode cX8_rings 76 = .ok (.ireturn, 1) := by decide +kernel
theorem dX8_quiet_0 : decode cX8_quiet 0 = .ok (.aload_n 0, 1) := by decide +kernel
theorem dX8_quiet_1 : decode cX8_quiet 1 = .ok (.iload_n 1, 1) := by decide +kernel
theorem dX8_quiet_2 : decode cX8_quiet 2 = .ok (.invokevirtual 86, 3) := by decide +kernel
theorem dX8_quiet_5 : decode cX8_quiet 5 = .ok (.istore_n 2, 1) := by decide +kernel
theorem dX8_quiet_6 : decode cX8_quiet 6 = .ok (.iload_n 2, 1) := by decide +kernel
theorem dX8_quiet_7 : decode cX8_quiet 7 = .ok (.ifCond .ge 5, 3) := by decide +kernel
theorem dX8_quiet_10 : decode cX8_quiet 10 = .ok (.iload_n 2, 1) := by decide +kernel
theorem dX8_quiet_11 : decode cX8_quiet 11 = .ok (.ireturn, 1) := by decide +kernel
theorem dX8_quiet_12 : decode cX8_quiet 12 = .ok (.aload_n 0, 1) := by decide +kernel
theorem dX8_quiet_13 : decode cX8_quiet 13 = .ok (.getfield 16, 3) := by decide +kernel
theorem dX8_quiet_16 : decode cX8_quiet 16 = .ok (.aload_n 0, 1) := by decide +kernel
theorem dX8_quiet_17 : decode cX8_quiet 17 = .ok (.getfield 10, 3) := by decide +kernel
theorem dX8_quiet_20 : decode cX8_quiet 20 = .ok (.invokevirtual 268, 3) := by decide +kernel
theorem dX8_quiet_23 : decode cX8_quiet 23 = .ok (.iconst 0, 1) := by decide +kernel
theorem dX8_quiet_24 : decode cX8_quiet 24 = .ok (.istore_n 3, 1) := by decide +kernel
theorem dX8_quiet_25 : decode cX8_quiet 25 = .ok (.iconst 0, 1) := by decide +kernel
theorem dX8_quiet_26 : decode cX8_quiet 26 = .ok (.istore 4, 2) := by decide +kernel
theorem dX8_quiet_28 : decode cX8_quiet 28 = .ok (.iconst 0, 1) := by decide +kernel
theorem dX8_quiet_29 : decode cX8_quiet 29 = .ok (.istore 5, 2) := by decide +kernel
theorem dX8_quiet_31 : decode cX8_quiet 31 = .ok (.iconst 0, 1) := by decide +kernel
theorem dX8_quiet_32 : decode cX8_quiet 32 = .ok (.istore 6, 2) := by decide +kernel
theorem dX8_quiet_34 : decode cX8_quiet 34 = .ok (.iload 6, 2) := by decide +kernel
theorem dX8_quiet_36 : decode cX8_quiet 36 = .ok (.iload_n 1, 1) := by decide +kernel
theorem dX8_quiet_37 : decode cX8_quiet 37 = .ok (.if_icmp .ge 62, 3) := by decide +kernel
theorem dX8_quiet_40 : decode cX8_quiet 40 = .ok (.aload_n 0, 1) := by decide +kernel
theorem dX8_quiet_41 : decode cX8_quiet 41 = .ok (.getfield 16, 3) := by decide +kernel
theorem dX8_quiet_44 : decode cX8_quiet 44 = .ok (.invokevirtual 90, 3) := by decide +kernel
theorem dX8_quiet_47 : decode cX8_quiet 47 = .ok (.aload_n 0, 1) := by decide +kernel
theorem dX8_quiet_48 : decode cX8_quiet 48 = .ok (.getfield 16, 3) := by decide +kernel
theorem dX8_quiet_51 : decode cX8_quiet 51 = .ok (.getfield 189, 3) := by decide +kernel
theorem dX8_quiet_54 : decode cX8_quiet 54 = .ok (.getfield 202, 3) := by decide +kernel
theorem dX8_quiet_57 : decode cX8_quiet 57 = .ok (.ifCond .ne 10, 3) := by decide +kernel
theorem dX8_quiet_60 : decode cX8_quiet 60 = .ok (.iload 5, 2) := by decide +kernel
theorem dX8_quiet_62 : decode cX8_quiet 62 = .ok (.iconst 1, 1) := by decide +kernel
theorem dX8_quiet_63 : decode cX8_quiet 63 = .ok (.iadd, 1) := by decide +kernel
theorem dX8_quiet_64 : decode cX8_quiet 64 = .ok (.goto 4, 3) := by decide +kernel
theorem dX8_quiet_67 : decode cX8_quiet 67 = .ok (.iconst 0, 1) := by decide +kernel
theorem dX8_quiet_68 : decode cX8_quiet 68 = .ok (.istore 5, 2) := by decide +kernel
theorem dX8_quiet_70 : decode cX8_quiet 70 = .ok (.iload 5, 2) := by decide +kernel
theorem dX8_quiet_72 : decode cX8_quiet 72 = .ok (.iload_n 3, 1) := by decide +kernel
theorem dX8_quiet_73 : decode cX8_quiet 73 = .ok (.if_icmp .le 20, 3) := by decide +kernel
theorem dX8_quiet_76 : decode cX8_quiet 76 = .ok (.iload 5, 2) := by decide +kernel
theorem dX8_quiet_78 : decode cX8_quiet 78 = .ok (.istore_n 3, 1) := by decide +kernel
theorem dX8_quiet_79 : decode cX8_quiet 79 = .ok (.aload_n 0, 1) := by decide +kernel
theorem dX8_quiet_80 : decode cX8_quiet 80 = .ok (.getfield 16, 3) := by decide +kernel
theorem dX8_quiet_83 : decode cX8_quiet 83 = .ok (.getfield 123, 3) := by decide +kernel
theorem dX8_quiet_86 : decode cX8_quiet 86 = .ok (.iload 5, 2) := by decide +kernel
theorem dX8_quiet_88 : decode cX8_quiet 88 = .ok (.isub, 1) := by decide +kernel
theorem dX8_quiet_89 : decode cX8_quiet 89 = .ok (.iconst 1, 1) := by decide +kernel
theorem dX8_quiet_90 : decode cX8_quiet 90 = .ok (.iadd, 1) := by decide +kernel
theorem dX8_quiet_91 : decode cX8_quiet 91 = .ok (.istore 4, 2) := by decide +kernel
theorem dX8_quiet_93 : decode cX8_quiet 93 = .ok (.iinc 6 1, 3) := by decide +kernel
theorem dX8_quiet_96 : decode cX8_quiet 96 = .ok (.goto (-62), 3) := by decide +kernel
theorem dX8_quiet_99 : decode cX8_quiet 99 = .ok (.aload_n 0, 1) := by decide +kernel
theorem dX8_quiet_100 : decode cX8_quiet 100 = .ok (.getfield 33, 3) := by decide +kernel
theorem dX8_quiet_103 : decode cX8_quiet 103 = .ok (.invokevirtual 209, 3) := by decide +kernel
theorem dX8_quiet_106 : decode cX8_quiet 106 = .ok (.aload_n 0, 1) := by decide +kernel
theorem dX8_quiet_107 : decode cX8_quiet 107 = .ok (.getfield 33, 3) := by decide +kernel
theorem dX8_quiet_110 : decode cX8_quiet 110 = .ok (.iload 4, 2) := by decide +kernel
theorem dX8_quiet_112 : decode cX8_quiet 112 = .ok (.i2l, 1) := by decide +kernel
theorem dX8_quiet_113 : decode cX8_quiet 113 = .ok (.invokevirtual 210, 3) := by decide +kernel
theorem dX8_quiet_116 : decode cX8_quiet 116 = .ok (.iload_n 3, 1) := by decide +kernel
theorem dX8_quiet_117 : decode cX8_quiet 117 = .ok (.ireturn, 1) := by decide +kernel
theorem dX8_moves_0 : decode cX8_moves 0 = .ok (.aload_n 0, 1) := by decide +kernel
theorem dX8_moves_1 : decode cX8_moves 1 = .ok (.getfield 10, 3) := by decide +kernel
theorem dX8_moves_4 : decode cX8_moves 4 = .ok (.iload_n 1, 1) := by decide +kernel
theorem dX8_moves_5 : decode cX8_moves 5 = .ok (.invokevirtual 154, 3) := by decide +kernel
theorem dX8_moves_8 : decode cX8_moves 8 = .ok (.astore_n 2, 1) := by decide +kernel
theorem dX8_moves_9 : decode cX8_moves 9 = .ok (.aload_n 2, 1) := by decide +kernel
theorem dX8_moves_10 : decode cX8_moves 10 = .ok (.ifnonnull 5, 3) := by decide +kernel
theorem dX8_moves_13 : decode cX8_moves 13 = .ok (.iconst (-1), 1) := by decide +kernel
theorem dX8_moves_14 : decode cX8_moves 14 = .ok (.ireturn, 1) := by decide +kernel
theorem dX8_moves_15 : decode cX8_moves 15 = .ok (.aload_n 2, 1) := by decide +kernel
theorem dX8_moves_16 : decode cX8_moves 16 = .ok (.getfield 171, 3) := by decide +kernel
theorem dX8_moves_19 : decode cX8_moves 19 = .ok (.ifCond .eq 8, 3) := by decide +kernel
theorem dX8_moves_22 : decode cX8_moves 22 = .ok (.bipush (-2), 2) := by decide +kernel
theorem dX8_moves_24 : decode cX8_moves 24 = .ok (.goto 21, 3) := by decide +kernel
theorem dX8_moves_27 : decode cX8_moves 27 = .ok (.aload_n 0, 1) := by decide +kernel
theorem dX8_moves_28 : decode cX8_moves 28 = .ok (.getfield 10, 3) := by decide +kernel
theorem dX8_moves_31 : decode cX8_moves 31 = .ok (.getfield 62, 3) := by decide +kernel
theorem dX8_moves_34 : decode cX8_moves 34 = .ok (.aload_n 2, 1) := by decide +kernel
theorem dX8_moves_35 : decode cX8_moves 35 = .ok (.getfield 238, 3) := by decide +kernel
theorem dX8_moves_38 : decode cX8_moves 38 = .ok (.aload_n 2, 1) := by decide +kernel
theorem dX8_moves_39 : decode cX8_moves 39 = .ok (.getfield 183, 3) := by decide +kernel
theorem dX8_moves_42 : decode cX8_moves 42 = .ok (.invokevirtual 275, 3) := by decide +kernel
theorem dX8_moves_45 : decode cX8_moves 45 = .ok (.ireturn, 1) := by decide +kernel
theorem dX8_cost_0 : decode cX8_cost 0 = .ok (.iload_n 1, 1) := by decide +kernel
theorem dX8_cost_1 : decode cX8_cost 1 = .ok (.iload_n 2, 1) := by decide +kernel
theorem dX8_cost_2 : decode cX8_cost 2 = .ok (.iload_n 3, 1) := by decide +kernel
theorem dX8_cost_3 : decode cX8_cost 3 = .ok (.iload 4, 2) := by decide +kernel
theorem dX8_cost_5 : decode cX8_cost 5 = .ok (.invokestatic 58, 3) := by decide +kernel
theorem dX8_cost_8 : decode cX8_cost 8 = .ok (.ifCond .ne 5, 3) := by decide +kernel
theorem dX8_cost_11 : decode cX8_cost 11 = .ok (.iconst (-1), 1) := by decide +kernel
theorem dX8_cost_12 : decode cX8_cost 12 = .ok (.ireturn, 1) := by decide +kernel
theorem dX8_cost_13 : decode cX8_cost 13 = .ok (.aload_n 0, 1) := by decide +kernel
theorem dX8_cost_14 : decode cX8_cost 14 = .ok (.getfield 22, 3) := by decide +kernel
theorem dX8_cost_17 : decode cX8_cost 17 = .ok (.iload_n 1, 1) := by decide +kernel
theorem dX8_cost_18 : decode cX8_cost 18 = .ok (.iload_n 2, 1) := by decide +kernel
theorem dX8_cost_19 : decode cX8_cost 19 = .ok (.iload_n 3, 1) := by decide +kernel
theorem dX8_cost_20 : decode cX8_cost 20 = .ok (.iload 4, 2) := by decide +kernel
theorem dX8_cost_22 : decode cX8_cost 22 = .ok (.invokevirtual 68, 3) := by decide +kernel
theorem dX8_cost_25 : decode cX8_cost 25 = .ok (.iconst 0, 1) := by decide +kernel
theorem dX8_cost_26 : decode cX8_cost 26 = .ok (.istore 5, 2) := by decide +kernel
theorem dX8_cost_28 : decode cX8_cost 28 = .ok (.iconst 0, 1) := by decide +kernel
theorem dX8_cost_29 : decode cX8_cost 29 = .ok (.istore 6, 2) := by decide +kernel
theorem dX8_cost_31 : decode cX8_cost 31 = .ok (.iconst 0, 1) := by decide +kernel
theorem dX8_cost_32 : decode cX8_cost 32 = .ok (.istore 7, 2) := by decide +kernel
theorem dX8_cost_34 : decode cX8_cost 34 = .ok (.iload 7, 2) := by decide +kernel
theorem dX8_cost_36 : decode cX8_cost 36 = .ok (.bipush 16, 2) := by decide +kernel
theorem dX8_cost_38 : decode cX8_cost 38 = .ok (.if_icmp .ge 84, 3) := by decide +kernel
theorem dX8_cost_41 : decode cX8_cost 41 = .ok (.aload_n 0, 1) := by decide +kernel
theorem dX8_cost_42 : decode cX8_cost 42 = .ok (.getfield 10, 3) := by decide +kernel
theorem dX8_cost_45 : decode cX8_cost 45 = .ok (.iload 7, 2) := by decide +kernel
theorem dX8_cost_47 : decode cX8_cost 47 = .ok (.invokevirtual 186, 3) := by decide +kernel
theorem dX8_cost_50 : decode cX8_cost 50 = .ok (.astore 8, 2) := by decide +kernel
theorem dX8_cost_52 : decode cX8_cost 52 = .ok (.aload 8, 2) := by decide +kernel
theorem dX8_cost_54 : decode cX8_cost 54 = .ok (.ifnull 62, 3) := by decide +kernel
theorem dX8_cost_57 : decode cX8_cost 57 = .ok (.aload_n 0, 1) := by decide +kernel
theorem dX8_cost_58 : decode cX8_cost 58 = .ok (.getfield 22, 3) := by decide +kernel
theorem dX8_cost_61 : decode cX8_cost 61 = .ok (.aload 8, 2) := by decide +kernel
theorem dX8_cost_63 : decode cX8_cost 63 = .ok (.getfield 183, 3) := by decide +kernel
theorem dX8_cost_66 : decode cX8_cost 66 = .ok (.aload_n 0, 1) := by decide +kernel
theorem dX8_cost_67 : decode cX8_cost 67 = .ok (.getfield 10, 3) := by decide +kernel
theorem dX8_cost_70 : decode cX8_cost 70 = .ok (.getfield 123, 3) := by decide +kernel
theorem dX8_cost_73 : decode cX8_cost 73 = .ok (.isub, 1) := by decide +kernel
theorem dX8_cost_74 : decode cX8_cost 74 = .ok (.invokevirtual 278, 3) := by decide +kernel
theorem dX8_cost_77 : decode cX8_cost 77 = .ok (.istore 9, 2) := by decide +kernel
theorem dX8_cost_79 : decode cX8_cost 79 = .ok (.iload 5, 2) := by decide +kernel
theorem dX8_cost_81 : decode cX8_cost 81 = .ok (.iload 9, 2) := by decide +kernel
theorem dX8_cost_83 : decode cX8_cost 83 = .ok (.iconst (-1), 1) := by decide +kernel
theorem dX8_cost_84 : decode cX8_cost 84 = .ok (.if_icmp .ne 7, 3) := by decide +kernel
theorem dX8_cost_87 : decode cX8_cost 87 = .ok (.iconst 1, 1) := by decide +kernel
theorem dX8_cost_88 : decode cX8_cost 88 = .ok (.goto 4, 3) := by decide +kernel
theorem dX8_cost_91 : decode cX8_cost 91 = .ok (.iconst 0, 1) := by decide +kernel
theorem dX8_cost_92 : decode cX8_cost 92 = .ok (.iadd, 1) := by decide +kernel
theorem dX8_cost_93 : decode cX8_cost 93 = .ok (.istore 5, 2) := by decide +kernel
theorem dX8_cost_95 : decode cX8_cost 95 = .ok (.iload 6, 2) := by decide +kernel
theorem dX8_cost_97 : decode cX8_cost 97 = .ok (.aload_n 0, 1) := by decide +kernel
theorem dX8_cost_98 : decode cX8_cost 98 = .ok (.getfield 22, 3) := by decide +kernel
theorem dX8_cost_101 : decode cX8_cost 101 = .ok (.iload 9, 2) := by decide +kernel
theorem dX8_cost_103 : decode cX8_cost 103 = .ok (.aload 8, 2) := by decide +kernel
theorem dX8_cost_105 : decode cX8_cost 105 = .ok (.getfield 183, 3) := by decide +kernel
theorem dX8_cost_108 : decode cX8_cost 108 = .ok (.invokevirtual 275, 3) := by decide +kernel
theorem dX8_cost_111 : decode cX8_cost 111 = .ok (.invokestatic 281, 3) := by decide +kernel
theorem dX8_cost_114 : decode cX8_cost 114 = .ok (.istore 6, 2) := by decide +kernel
theorem dX8_cost_116 : decode cX8_cost 116 = .ok (.iinc 7 1, 3) := by decide +kernel
theorem dX8_cost_119 : decode cX8_cost 119 = .ok (.goto (-85), 3) := by decide +kernel
theorem dX8_cost_122 : decode cX8_cost 122 = .ok (.aload_n 0, 1) := by decide +kernel
theorem dX8_cost_123 : decode cX8_cost 123 = .ok (.getfield 33, 3) := by decide +kernel
theorem dX8_cost_126 : decode cX8_cost 126 = .ok (.invokevirtual 209, 3) := by decide +kernel
theorem dX8_cost_129 : decode cX8_cost 129 = .ok (.aload_n 0, 1) := by decide +kernel
theorem dX8_cost_130 : decode cX8_cost 130 = .ok (.getfield 33, 3) := by decide +kernel
theorem dX8_cost_133 : decode cX8_cost 133 = .ok (.iload 5, 2) := by decide +kernel
theorem dX8_cost_135 : decode cX8_cost 135 = .ok (.i2l, 1) := by decide +kernel
theorem dX8_cost_136 : decode cX8_cost 136 = .ok (.invokevirtual 210, 3) := by decide +kernel
theorem dX8_cost_139 : decode cX8_cost 139 = .ok (.aload_n 0, 1) := by decide +kernel
theorem dX8_cost_140 : decode cX8_cost 140 = .ok (.getfield 33, 3) := by decide +kernel
theorem dX8_cost_143 : decode cX8_cost 143 = .ok (.iload 6, 2) := by decide +kernel
theorem dX8_cost_145 : decode cX8_cost 145 = .ok (.i2l, 1) := by decide +kernel
theorem dX8_cost_146 : decode cX8_cost 146 = .ok (.invokevirtual 210, 3) := by decide +kernel
theorem dX8_cost_149 : decode cX8_cost 149 = .ok (.aload_n 0, 1) := by decide +kernel
theorem dX8_cost_150 : decode cX8_cost 150 = .ok (.aload_n 0, 1) := by decide +kernel
theorem dX8_cost_151 : decode cX8_cost 151 = .ok (.getfield 22, 3) := by decide +kernel
theorem dX8_cost_154 : decode cX8_cost 154 = .ok (.invokevirtual 286, 3) := by decide +kernel
theorem dX8_cost_157 : decode cX8_cost 157 = .ok (.ireturn, 1) := by decide +kernel
theorem dX8_best_0 : decode cX8_best 0 = .ok (.iload_n 1, 1) := by decide +kernel
theorem dX8_best_1 : decode cX8_best 1 = .ok (.iconst 1, 1) := by decide +kernel
theorem dX8_best_2 : decode cX8_best 2 = .ok (.iconst 4, 1) := by decide +kernel
theorem dX8_best_3 : decode cX8_best 3 = .ok (.invokestatic 79, 3) := by decide +kernel
theorem dX8_best_6 : decode cX8_best 6 = .ok (.ifCond .ne 5, 3) := by decide +kernel
theorem dX8_best_9 : decode cX8_best 9 = .ok (.iconst (-1), 1) := by decide +kernel
theorem dX8_best_10 : decode cX8_best 10 = .ok (.ireturn, 1) := by decide +kernel
theorem dX8_best_11 : decode cX8_best 11 = .ok (.iconst 0, 1) := by decide +kernel
theorem dX8_best_12 : decode cX8_best 12 = .ok (.istore_n 2, 1) := by decide +kernel
theorem dX8_best_13 : decode cX8_best 13 = .ok (.iconst 0, 1) := by decide +kernel
theorem dX8_best_14 : decode cX8_best 14 = .ok (.istore_n 3, 1) := by decide +kernel
theorem dX8_best_15 : decode cX8_best 15 = .ok (.iconst 2, 1) := by decide +kernel
theorem dX8_best_16 : decode cX8_best 16 = .ok (.istore 4, 2) := by decide +kernel
theorem dX8_best_18 : decode cX8_best 18 = .ok (.iload 4, 2) := by decide +kernel
theorem dX8_best_20 : decode cX8_best 20 = .ok (.bipush 16, 2) := by decide +kernel
theorem dX8_best_22 : decode cX8_best 22 = .ok (.if_icmp .gt 82, 3) := by decide +kernel
theorem dX8_best_25 : decode cX8_best 25 = .ok (.aload_n 0, 1) := by decide +kernel
theorem dX8_best_26 : decode cX8_best 26 = .ok (.getfield 22, 3) := by decide +kernel
theorem dX8_best_29 : decode cX8_best 29 = .ok (.iload 4, 2) := by decide +kernel
theorem dX8_best_31 : decode cX8_best 31 = .ok (.iload_n 1, 1) := by decide +kernel
theorem dX8_best_32 : decode cX8_best 32 = .ok (.iconst 1, 1) := by decide +kernel
theorem dX8_best_33 : decode cX8_best 33 = .ok (.if_icmp .le 8, 3) := by decide +kernel
theorem dX8_best_36 : decode cX8_best 36 = .ok (.iload 4, 2) := by decide +kernel
theorem dX8_best_38 : decode cX8_best 38 = .ok (.goto 4, 3) := by decide +kernel
theorem dX8_best_41 : decode cX8_best 41 = .ok (.iconst 0, 1) := by decide +kernel
theorem dX8_best_42 : decode cX8_best 42 = .ok (.iload_n 1, 1) := by decide +kernel
theorem dX8_best_43 : decode cX8_best 43 = .ok (.iconst 2, 1) := by decide +kernel
theorem dX8_best_44 : decode cX8_best 44 = .ok (.if_icmp .le 8, 3) := by decide +kernel
theorem dX8_best_47 : decode cX8_best 47 = .ok (.iload 4, 2) := by decide +kernel
theorem dX8_best_49 : decode cX8_best 49 = .ok (.goto 4, 3) := by decide +kernel
theorem dX8_best_52 : decode cX8_best 52 = .ok (.iconst 0, 1) := by decide +kernel
theorem dX8_best_53 : decode cX8_best 53 = .ok (.iload_n 1, 1) := by decide +kernel
theorem dX8_best_54 : decode cX8_best 54 = .ok (.iconst 3, 1) := by decide +kernel
theorem dX8_best_55 : decode cX8_best 55 = .ok (.if_icmp .le 8, 3) := by decide +kernel
theorem dX8_best_58 : decode cX8_best 58 = .ok (.iload 4, 2) := by decide +kernel
theorem dX8_best_60 : decode cX8_best 60 = .ok (.goto 4, 3) := by decide +kernel
theorem dX8_best_63 : decode cX8_best 63 = .ok (.iconst 0, 1) := by decide +kernel
theorem dX8_best_64 : decode cX8_best 64 = .ok (.invokevirtual 68, 3) := by decide +kernel
theorem dX8_best_67 : decode cX8_best 67 = .ok (.aload_n 0, 1) := by decide +kernel
theorem dX8_best_68 : decode cX8_best 68 = .ok (.aload_n 0, 1) := by decide +kernel
theorem dX8_best_69 : decode cX8_best 69 = .ok (.getfield 22, 3) := by decide +kernel
theorem dX8_best_72 : decode cX8_best 72 = .ok (.invokevirtual 286, 3) := by decide +kernel
theorem dX8_best_75 : decode cX8_best 75 = .ok (.iload_n 1, 1) := by decide +kernel
theorem dX8_best_76 : decode cX8_best 76 = .ok (.iload 4, 2) := by decide +kernel
theorem dX8_best_78 : decode cX8_best 78 = .ok (.imul, 1) := by decide +kernel
theorem dX8_best_79 : decode cX8_best 79 = .ok (.iadd, 1) := by decide +kernel
theorem dX8_best_80 : decode cX8_best 80 = .ok (.istore 5, 2) := by decide +kernel
theorem dX8_best_82 : decode cX8_best 82 = .ok (.iload_n 2, 1) := by decide +kernel
theorem dX8_best_83 : decode cX8_best 83 = .ok (.ifCond .eq 9, 3) := by decide +kernel
theorem dX8_best_86 : decode cX8_best 86 = .ok (.iload 5, 2) := by decide +kernel
theorem dX8_best_88 : decode cX8_best 88 = .ok (.iload_n 3, 1) := by decide +kernel
theorem dX8_best_89 : decode cX8_best 89 = .ok (.if_icmp .ge 9, 3) := by decide +kernel
theorem dX8_best_92 : decode cX8_best 92 = .ok (.iload 4, 2) := by decide +kernel
theorem dX8_best_94 : decode cX8_best 94 = .ok (.istore_n 2, 1) := by decide +kernel
theorem dX8_best_95 : decode cX8_best 95 = .ok (.iload 5, 2) := by decide +kernel
theorem dX8_best_97 : decode cX8_best 97 = .ok (.istore_n 3, 1) := by decide +kernel
theorem dX8_best_98 : decode cX8_best 98 = .ok (.iinc 4 1, 3) := by decide +kernel
theorem dX8_best_101 : decode cX8_best 101 = .ok (.goto (-83), 3) := by decide +kernel
theorem dX8_best_104 : decode cX8_best 104 = .ok (.aload_n 0, 1) := by decide +kernel
theorem dX8_best_105 : decode cX8_best 105 = .ok (.getfield 33, 3) := by decide +kernel
theorem dX8_best_108 : decode cX8_best 108 = .ok (.invokevirtual 209, 3) := by decide +kernel
theorem dX8_best_111 : decode cX8_best 111 = .ok (.aload_n 0, 1) := by decide +kernel
theorem dX8_best_112 : decode cX8_best 112 = .ok (.getfield 33, 3) := by decide +kernel
theorem dX8_best_115 : decode cX8_best 115 = .ok (.iload_n 3, 1) := by decide +kernel
theorem dX8_best_116 : decode cX8_best 116 = .ok (.i2l, 1) := by decide +kernel
theorem dX8_best_117 : decode cX8_best 117 = .ok (.invokevirtual 210, 3) := by decide +kernel
theorem dX8_best_120 : decode cX8_best 120 = .ok (.iload_n 2, 1) := by decide +kernel
theorem dX8_best_121 : decode cX8_best 121 = .ok (.ireturn, 1) := by decide +kernel
theorem dX8_ahead_0 : decode cX8_ahead 0 = .ok (.aload_n 0, 1) := by decide +kernel
theorem dX8_ahead_1 : decode cX8_ahead 1 = .ok (.getfield 10, 3) := by decide +kernel
theorem dX8_ahead_4 : decode cX8_ahead 4 = .ok (.iload_n 1, 1) := by decide +kernel
theorem dX8_ahead_5 : decode cX8_ahead 5 = .ok (.invokevirtual 154, 3) := by decide +kernel
theorem dX8_ahead_8 : decode cX8_ahead 8 = .ok (.astore_n 3, 1) := by decide +kernel
theorem dX8_ahead_9 : decode cX8_ahead 9 = .ok (.aload_n 0, 1) := by decide +kernel
theorem dX8_ahead_10 : decode cX8_ahead 10 = .ok (.getfield 10, 3) := by decide +kernel
theorem dX8_ahead_13 : decode cX8_ahead 13 = .ok (.iload_n 2, 1) := by decide +kernel
theorem dX8_ahead_14 : decode cX8_ahead 14 = .ok (.invokevirtual 154, 3) := by decide +kernel
theorem dX8_ahead_17 : decode cX8_ahead 17 = .ok (.astore 4, 2) := by decide +kernel
theorem dX8_ahead_19 : decode cX8_ahead 19 = .ok (.aload_n 3, 1) := by decide +kernel
theorem dX8_ahead_20 : decode cX8_ahead 20 = .ok (.ifnull 13, 3) := by decide +kernel
theorem dX8_ahead_23 : decode cX8_ahead 23 = .ok (.aload 4, 2) := by decide +kernel
theorem dX8_ahead_25 : decode cX8_ahead 25 = .ok (.ifnull 8, 3) := by decide +kernel
theorem dX8_ahead_28 : decode cX8_ahead 28 = .ok (.iload_n 1, 1) := by decide +kernel
theorem dX8_ahead_29 : decode cX8_ahead 29 = .ok (.iload_n 2, 1) := by decide +kernel
theorem dX8_ahead_30 : decode cX8_ahead 30 = .ok (.if_icmp .ne 5, 3) := by decide +kernel
theorem dX8_ahead_33 : decode cX8_ahead 33 = .ok (.iconst (-1), 1) := by decide +kernel
theorem dX8_ahead_34 : decode cX8_ahead 34 = .ok (.ireturn, 1) := by decide +kernel
theorem dX8_ahead_35 : decode cX8_ahead 35 = .ok (.aload_n 3, 1) := by decide +kernel
theorem dX8_ahead_36 : decode cX8_ahead 36 = .ok (.getfield 171, 3) := by decide +kernel
theorem dX8_ahead_39 : decode cX8_ahead 39 = .ok (.ifCond .ne 11, 3) := by decide +kernel
theorem dX8_ahead_42 : decode cX8_ahead 42 = .ok (.aload 4, 2) := by decide +kernel
theorem dX8_ahead_44 : decode cX8_ahead 44 = .ok (.getfield 171, 3) := by decide +kernel
theorem dX8_ahead_47 : decode cX8_ahead 47 = .ok (.ifCond .eq 6, 3) := by decide +kernel
theorem dX8_ahead_50 : decode cX8_ahead 50 = .ok (.bipush (-2), 2) := by decide +kernel
theorem dX8_ahead_52 : decode cX8_ahead 52 = .ok (.ireturn, 1) := by decide +kernel
theorem dX8_ahead_53 : decode cX8_ahead 53 = .ok (.aload_n 3, 1) := by decide +kernel
theorem dX8_ahead_54 : decode cX8_ahead 54 = .ok (.aload 4, 2) := by decide +kernel
theorem dX8_ahead_56 : decode cX8_ahead 56 = .ok (.iconst 1, 1) := by decide +kernel
theorem dX8_ahead_57 : decode cX8_ahead 57 = .ok (.aload_n 0, 1) := by decide +kernel
theorem dX8_ahead_58 : decode cX8_ahead 58 = .ok (.getfield 10, 3) := by decide +kernel
theorem dX8_ahead_61 : decode cX8_ahead 61 = .ok (.getfield 83, 3) := by decide +kernel
theorem dX8_ahead_64 : decode cX8_ahead 64 = .ok (.invokevirtual 290, 3) := by decide +kernel
theorem dX8_ahead_67 : decode cX8_ahead 67 = .ok (.istore 5, 2) := by decide +kernel
theorem dX8_ahead_69 : decode cX8_ahead 69 = .ok (.aload_n 0, 1) := by decide +kernel
theorem dX8_ahead_70 : decode cX8_ahead 70 = .ok (.getfield 33, 3) := by decide +kernel
theorem dX8_ahead_73 : decode cX8_ahead 73 = .ok (.invokevirtual 209, 3) := by decide +kernel
theorem dX8_ahead_76 : decode cX8_ahead 76 = .ok (.aload_n 0, 1) := by decide +kernel
theorem dX8_ahead_77 : decode cX8_ahead 77 = .ok (.getfield 33, 3) := by decide +kernel
theorem dX8_ahead_80 : decode cX8_ahead 80 = .ok (.iload 5, 2) := by decide +kernel
theorem dX8_ahead_82 : decode cX8_ahead 82 = .ok (.ifCond .eq 11, 3) := by decide +kernel
theorem dX8_ahead_85 : decode cX8_ahead 85 = .ok (.aload_n 3, 1) := by decide +kernel
theorem dX8_ahead_86 : decode cX8_ahead 86 = .ok (.getfield 183, 3) := by decide +kernel
theorem dX8_ahead_89 : decode cX8_ahead 89 = .ok (.i2l, 1) := by decide +kernel
theorem dX8_ahead_90 : decode cX8_ahead 90 = .ok (.goto 9, 3) := by decide +kernel
theorem dX8_ahead_93 : decode cX8_ahead 93 = .ok (.aload 4, 2) := by decide +kernel
theorem dX8_ahead_95 : decode cX8_ahead 95 = .ok (.getfield 183, 3) := by decide +kernel
theorem dX8_ahead_98 : decode cX8_ahead 98 = .ok (.i2l, 1) := by decide +kernel
theorem dX8_ahead_99 : decode cX8_ahead 99 = .ok (.invokevirtual 210, 3) := by decide +kernel
theorem dX8_ahead_102 : decode cX8_ahead 102 = .ok (.iload 5, 2) := by decide +kernel
theorem dX8_ahead_104 : decode cX8_ahead 104 = .ok (.ifCond .eq 7, 3) := by decide +kernel
theorem dX8_ahead_107 : decode cX8_ahead 107 = .ok (.iconst 0, 1) := by decide +kernel
theorem dX8_ahead_108 : decode cX8_ahead 108 = .ok (.goto 4, 3) := by decide +kernel
theorem dX8_ahead_111 : decode cX8_ahead 111 = .ok (.iconst 1, 1) := by decide +kernel
theorem dX8_ahead_112 : decode cX8_ahead 112 = .ok (.ireturn, 1) := by decide +kernel
theorem dX8_way_0 : decode cX8_way 0 = .ok (.aload_n 0, 1) := by decide +kernel
theorem dX8_way_1 : decode cX8_way 1 = .ok (.getfield 10, 3) := by decide +kernel
theorem dX8_way_4 : decode cX8_way 4 = .ok (.iload_n 1, 1) := by decide +kernel
theorem dX8_way_5 : decode cX8_way 5 = .ok (.invokevirtual 154, 3) := by decide +kernel
end
section
theorem dX8_way_8 : decode cX8_way 8 = .ok (.astore_n 2, 1) := by decide +kernel
theorem dX8_way_9 : decode cX8_way 9 = .ok (.aload_n 2, 1) := by decide +kernel
theorem dX8_way_10 : decode cX8_way 10 = .ok (.ifnonnull 5, 3) := by decide +kernel
theorem dX8_way_13 : decode cX8_way 13 = .ok (.iconst (-1), 1) := by decide +kernel
theorem dX8_way_14 : decode cX8_way 14 = .ok (.ireturn, 1) := by decide +kernel
theorem dX8_way_15 : decode cX8_way 15 = .ok (.aload_n 2, 1) := by decide +kernel
theorem dX8_way_16 : decode cX8_way 16 = .ok (.getfield 171, 3) := by decide +kernel
theorem dX8_way_19 : decode cX8_way 19 = .ok (.ifCond .eq 6, 3) := by decide +kernel
theorem dX8_way_22 : decode cX8_way 22 = .ok (.bipush (-2), 2) := by decide +kernel
theorem dX8_way_24 : decode cX8_way 24 = .ok (.ireturn, 1) := by decide +kernel
theorem dX8_way_25 : decode cX8_way 25 = .ok (.aload_n 0, 1) := by decide +kernel
theorem dX8_way_26 : decode cX8_way 26 = .ok (.getfield 10, 3) := by decide +kernel
theorem dX8_way_29 : decode cX8_way 29 = .ok (.getfield 62, 3) := by decide +kernel
theorem dX8_way_32 : decode cX8_way 32 = .ok (.aload_n 2, 1) := by decide +kernel
theorem dX8_way_33 : decode cX8_way 33 = .ok (.getfield 238, 3) := by decide +kernel
theorem dX8_way_36 : decode cX8_way 36 = .ok (.aload_n 2, 1) := by decide +kernel
theorem dX8_way_37 : decode cX8_way 37 = .ok (.getfield 183, 3) := by decide +kernel
theorem dX8_way_40 : decode cX8_way 40 = .ok (.invokevirtual 275, 3) := by decide +kernel
theorem dX8_way_43 : decode cX8_way 43 = .ok (.istore_n 3, 1) := by decide +kernel
theorem dX8_way_44 : decode cX8_way 44 = .ok (.aload_n 2, 1) := by decide +kernel
theorem dX8_way_45 : decode cX8_way 45 = .ok (.getfield 238, 3) := by decide +kernel
theorem dX8_way_48 : decode cX8_way 48 = .ok (.istore 4, 2) := by decide +kernel
theorem dX8_way_50 : decode cX8_way 50 = .ok (.aload_n 0, 1) := by decide +kernel
theorem dX8_way_51 : decode cX8_way 51 = .ok (.getfield 33, 3) := by decide +kernel
theorem dX8_way_54 : decode cX8_way 54 = .ok (.invokevirtual 209, 3) := by decide +kernel
theorem dX8_way_57 : decode cX8_way 57 = .ok (.aload_n 0, 1) := by decide +kernel
theorem dX8_way_58 : decode cX8_way 58 = .ok (.getfield 33, 3) := by decide +kernel
theorem dX8_way_61 : decode cX8_way 61 = .ok (.iload 4, 2) := by decide +kernel
theorem dX8_way_63 : decode cX8_way 63 = .ok (.i2l, 1) := by decide +kernel
theorem dX8_way_64 : decode cX8_way 64 = .ok (.invokevirtual 210, 3) := by decide +kernel
theorem dX8_way_67 : decode cX8_way 67 = .ok (.iconst 0, 1) := by decide +kernel
theorem dX8_way_68 : decode cX8_way 68 = .ok (.istore 5, 2) := by decide +kernel
theorem dX8_way_70 : decode cX8_way 70 = .ok (.iload 5, 2) := by decide +kernel
theorem dX8_way_72 : decode cX8_way 72 = .ok (.iload_n 3, 1) := by decide +kernel
theorem dX8_way_73 : decode cX8_way 73 = .ok (.if_icmp .ge 66, 3) := by decide +kernel
theorem dX8_way_76 : decode cX8_way 76 = .ok (.aload_n 0, 1) := by decide +kernel
theorem dX8_way_77 : decode cX8_way 77 = .ok (.getfield 10, 3) := by decide +kernel
theorem dX8_way_80 : decode cX8_way 80 = .ok (.getfield 62, 3) := by decide +kernel
theorem dX8_way_83 : decode cX8_way 83 = .ok (.iload 4, 2) := by decide +kernel
theorem dX8_way_85 : decode cX8_way 85 = .ok (.aload_n 2, 1) := by decide +kernel
theorem dX8_way_86 : decode cX8_way 86 = .ok (.getfield 183, 3) := by decide +kernel
theorem dX8_way_89 : decode cX8_way 89 = .ok (.invokevirtual 294, 3) := by decide +kernel
theorem dX8_way_92 : decode cX8_way 92 = .ok (.istore 6, 2) := by decide +kernel
theorem dX8_way_94 : decode cX8_way 94 = .ok (.aload_n 0, 1) := by decide +kernel
theorem dX8_way_95 : decode cX8_way 95 = .ok (.getfield 10, 3) := by decide +kernel
theorem dX8_way_98 : decode cX8_way 98 = .ok (.getfield 62, 3) := by decide +kernel
theorem dX8_way_101 : decode cX8_way 101 = .ok (.aload_n 2, 1) := by decide +kernel
theorem dX8_way_102 : decode cX8_way 102 = .ok (.getfield 183, 3) := by decide +kernel
theorem dX8_way_105 : decode cX8_way 105 = .ok (.iload 6, 2) := by decide +kernel
theorem dX8_way_107 : decode cX8_way 107 = .ok (.isub, 1) := by decide +kernel
theorem dX8_way_108 : decode cX8_way 108 = .ok (.invokevirtual 278, 3) := by decide +kernel
theorem dX8_way_111 : decode cX8_way 111 = .ok (.istore 4, 2) := by decide +kernel
theorem dX8_way_113 : decode cX8_way 113 = .ok (.aload_n 0, 1) := by decide +kernel
theorem dX8_way_114 : decode cX8_way 114 = .ok (.getfield 33, 3) := by decide +kernel
theorem dX8_way_117 : decode cX8_way 117 = .ok (.iload 6, 2) := by decide +kernel
theorem dX8_way_119 : decode cX8_way 119 = .ok (.i2l, 1) := by decide +kernel
theorem dX8_way_120 : decode cX8_way 120 = .ok (.invokevirtual 210, 3) := by decide +kernel
theorem dX8_way_123 : decode cX8_way 123 = .ok (.aload_n 0, 1) := by decide +kernel
theorem dX8_way_124 : decode cX8_way 124 = .ok (.getfield 33, 3) := by decide +kernel
theorem dX8_way_127 : decode cX8_way 127 = .ok (.iload 4, 2) := by decide +kernel
theorem dX8_way_129 : decode cX8_way 129 = .ok (.i2l, 1) := by decide +kernel
theorem dX8_way_130 : decode cX8_way 130 = .ok (.invokevirtual 210, 3) := by decide +kernel
theorem dX8_way_133 : decode cX8_way 133 = .ok (.iinc 5 1, 3) := by decide +kernel
theorem dX8_way_136 : decode cX8_way 136 = .ok (.goto (-66), 3) := by decide +kernel
theorem dX8_way_139 : decode cX8_way 139 = .ok (.aload_n 0, 1) := by decide +kernel
theorem dX8_way_140 : decode cX8_way 140 = .ok (.getfield 33, 3) := by decide +kernel
theorem dX8_way_143 : decode cX8_way 143 = .ok (.aload_n 2, 1) := by decide +kernel
theorem dX8_way_144 : decode cX8_way 144 = .ok (.getfield 183, 3) := by decide +kernel
theorem dX8_way_147 : decode cX8_way 147 = .ok (.i2l, 1) := by decide +kernel
theorem dX8_way_148 : decode cX8_way 148 = .ok (.invokevirtual 210, 3) := by decide +kernel
theorem dX8_way_151 : decode cX8_way 151 = .ok (.iload_n 3, 1) := by decide +kernel
theorem dX8_way_152 : decode cX8_way 152 = .ok (.ireturn, 1) := by decide +kernel
theorem dX8_would_0 : decode cX8_would 0 = .ok (.aload_n 0, 1) := by decide +kernel
theorem dX8_would_1 : decode cX8_would 1 = .ok (.iload_n 1, 1) := by decide +kernel
theorem dX8_would_2 : decode cX8_would 2 = .ok (.invokevirtual 101, 3) := by decide +kernel
theorem dX8_would_5 : decode cX8_would 5 = .ok (.istore_n 2, 1) := by decide +kernel
theorem dX8_would_6 : decode cX8_would 6 = .ok (.iload_n 2, 1) := by decide +kernel
theorem dX8_would_7 : decode cX8_would 7 = .ok (.ifCond .ge 5, 3) := by decide +kernel
theorem dX8_would_10 : decode cX8_would 10 = .ok (.iload_n 2, 1) := by decide +kernel
theorem dX8_would_11 : decode cX8_would 11 = .ok (.ireturn, 1) := by decide +kernel
theorem dX8_would_12 : decode cX8_would 12 = .ok (.aload_n 0, 1) := by decide +kernel
theorem dX8_would_13 : decode cX8_would 13 = .ok (.getfield 16, 3) := by decide +kernel
theorem dX8_would_16 : decode cX8_would 16 = .ok (.aload_n 0, 1) := by decide +kernel
theorem dX8_would_17 : decode cX8_would 17 = .ok (.getfield 10, 3) := by decide +kernel
theorem dX8_would_20 : decode cX8_would 20 = .ok (.invokevirtual 268, 3) := by decide +kernel
theorem dX8_would_23 : decode cX8_would 23 = .ok (.aload_n 0, 1) := by decide +kernel
theorem dX8_would_24 : decode cX8_would 24 = .ok (.getfield 16, 3) := by decide +kernel
theorem dX8_would_27 : decode cX8_would 27 = .ok (.iload_n 1, 1) := by decide +kernel
theorem dX8_would_28 : decode cX8_would 28 = .ok (.invokevirtual 104, 3) := by decide +kernel
theorem dX8_would_31 : decode cX8_would 31 = .ok (.aload_n 0, 1) := by decide +kernel
theorem dX8_would_32 : decode cX8_would 32 = .ok (.getfield 33, 3) := by decide +kernel
theorem dX8_would_35 : decode cX8_would 35 = .ok (.invokevirtual 209, 3) := by decide +kernel
theorem dX8_would_38 : decode cX8_would 38 = .ok (.iconst 0, 1) := by decide +kernel
theorem dX8_would_39 : decode cX8_would 39 = .ok (.istore_n 3, 1) := by decide +kernel
theorem dX8_would_40 : decode cX8_would 40 = .ok (.iload_n 3, 1) := by decide +kernel
theorem dX8_would_41 : decode cX8_would 41 = .ok (.aload_n 0, 1) := by decide +kernel
theorem dX8_would_42 : decode cX8_would 42 = .ok (.getfield 16, 3) := by decide +kernel
theorem dX8_would_45 : decode cX8_would 45 = .ok (.getfield 189, 3) := by decide +kernel
theorem dX8_would_48 : decode cX8_would 48 = .ok (.getfield 202, 3) := by decide +kernel
theorem dX8_would_51 : decode cX8_would 51 = .ok (.if_icmp .ge 73, 3) := by decide +kernel
theorem dX8_would_54 : decode cX8_would 54 = .ok (.iload_n 3, 1) := by decide +kernel
theorem dX8_would_55 : decode cX8_would 55 = .ok (.bipush 20, 2) := by decide +kernel
theorem dX8_would_57 : decode cX8_would 57 = .ok (.if_icmp .ge 67, 3) := by decide +kernel
theorem dX8_would_60 : decode cX8_would 60 = .ok (.aload_n 0, 1) := by decide +kernel
theorem dX8_would_61 : decode cX8_would 61 = .ok (.getfield 16, 3) := by decide +kernel
theorem dX8_would_64 : decode cX8_would 64 = .ok (.getfield 189, 3) := by decide +kernel
theorem dX8_would_67 : decode cX8_would 67 = .ok (.iload_n 3, 1) := by decide +kernel
theorem dX8_would_68 : decode cX8_would 68 = .ok (.invokevirtual 297, 3) := by decide +kernel
theorem dX8_would_71 : decode cX8_would 71 = .ok (.astore 4, 2) := by decide +kernel
theorem dX8_would_73 : decode cX8_would 73 = .ok (.aload 4, 2) := by decide +kernel
theorem dX8_would_75 : decode cX8_would 75 = .ok (.ifnull 43, 3) := by decide +kernel
theorem dX8_would_78 : decode cX8_would 78 = .ok (.aload_n 0, 1) := by decide +kernel
theorem dX8_would_79 : decode cX8_would 79 = .ok (.getfield 33, 3) := by decide +kernel
theorem dX8_would_82 : decode cX8_would 82 = .ok (.aload 4, 2) := by decide +kernel
theorem dX8_would_84 : decode cX8_would 84 = .ok (.getfield 151, 3) := by decide +kernel
theorem dX8_would_87 : decode cX8_would 87 = .ok (.i2l, 1) := by decide +kernel
theorem dX8_would_88 : decode cX8_would 88 = .ok (.invokevirtual 210, 3) := by decide +kernel
theorem dX8_would_91 : decode cX8_would 91 = .ok (.aload_n 0, 1) := by decide +kernel
theorem dX8_would_92 : decode cX8_would 92 = .ok (.getfield 33, 3) := by decide +kernel
theorem dX8_would_95 : decode cX8_would 95 = .ok (.aload 4, 2) := by decide +kernel
theorem dX8_would_97 : decode cX8_would 97 = .ok (.getfield 158, 3) := by decide +kernel
theorem dX8_would_100 : decode cX8_would 100 = .ok (.ifCond .eq 12, 3) := by decide +kernel
theorem dX8_would_103 : decode cX8_would 103 = .ok (.aload 4, 2) := by decide +kernel
theorem dX8_would_105 : decode cX8_would 105 = .ok (.getfield 183, 3) := by decide +kernel
theorem dX8_would_108 : decode cX8_would 108 = .ok (.i2l, 1) := by decide +kernel
theorem dX8_would_109 : decode cX8_would 109 = .ok (.goto 6, 3) := by decide +kernel
theorem dX8_would_112 : decode cX8_would 112 = .ok (.ldc2_w 300, 3) := by decide +kernel
theorem dX8_would_115 : decode cX8_would 115 = .ok (.invokevirtual 210, 3) := by decide +kernel
theorem dX8_would_118 : decode cX8_would 118 = .ok (.iinc 3 1, 3) := by decide +kernel
theorem dX8_would_121 : decode cX8_would 121 = .ok (.goto (-81), 3) := by decide +kernel
theorem dX8_would_124 : decode cX8_would 124 = .ok (.aload_n 0, 1) := by decide +kernel
theorem dX8_would_125 : decode cX8_would 125 = .ok (.getfield 16, 3) := by decide +kernel
theorem dX8_would_128 : decode cX8_would 128 = .ok (.getfield 189, 3) := by decide +kernel
theorem dX8_would_131 : decode cX8_would 131 = .ok (.getfield 202, 3) := by decide +kernel
theorem dX8_would_134 : decode cX8_would 134 = .ok (.ireturn, 1) := by decide +kernel
theorem dX8_busiest_0 : decode cX8_busiest 0 = .ok (.aload_n 0, 1) := by decide +kernel
theorem dX8_busiest_1 : decode cX8_busiest 1 = .ok (.iload_n 1, 1) := by decide +kernel
theorem dX8_busiest_2 : decode cX8_busiest 2 = .ok (.invokevirtual 86, 3) := by decide +kernel
theorem dX8_busiest_5 : decode cX8_busiest 5 = .ok (.istore_n 2, 1) := by decide +kernel
theorem dX8_busiest_6 : decode cX8_busiest 6 = .ok (.iload_n 2, 1) := by decide +kernel
theorem dX8_busiest_7 : decode cX8_busiest 7 = .ok (.ifCond .ge 5, 3) := by decide +kernel
theorem dX8_busiest_10 : decode cX8_busiest 10 = .ok (.iload_n 2, 1) := by decide +kernel
theorem dX8_busiest_11 : decode cX8_busiest 11 = .ok (.ireturn, 1) := by decide +kernel
theorem dX8_busiest_12 : decode cX8_busiest 12 = .ok (.aload_n 0, 1) := by decide +kernel
theorem dX8_busiest_13 : decode cX8_busiest 13 = .ok (.getfield 16, 3) := by decide +kernel
theorem dX8_busiest_16 : decode cX8_busiest 16 = .ok (.aload_n 0, 1) := by decide +kernel
theorem dX8_busiest_17 : decode cX8_busiest 17 = .ok (.getfield 10, 3) := by decide +kernel
theorem dX8_busiest_20 : decode cX8_busiest 20 = .ok (.invokevirtual 268, 3) := by decide +kernel
theorem dX8_busiest_23 : decode cX8_busiest 23 = .ok (.aload_n 0, 1) := by decide +kernel
theorem dX8_busiest_24 : decode cX8_busiest 24 = .ok (.getfield 10, 3) := by decide +kernel
theorem dX8_busiest_27 : decode cX8_busiest 27 = .ok (.getfield 123, 3) := by decide +kernel
theorem dX8_busiest_30 : decode cX8_busiest 30 = .ok (.istore_n 3, 1) := by decide +kernel
theorem dX8_busiest_31 : decode cX8_busiest 31 = .ok (.iconst 0, 1) := by decide +kernel
theorem dX8_busiest_32 : decode cX8_busiest 32 = .ok (.istore 4, 2) := by decide +kernel
theorem dX8_busiest_34 : decode cX8_busiest 34 = .ok (.iconst 0, 1) := by decide +kernel
theorem dX8_busiest_35 : decode cX8_busiest 35 = .ok (.istore 5, 2) := by decide +kernel
theorem dX8_busiest_37 : decode cX8_busiest 37 = .ok (.iconst 0, 1) := by decide +kernel
theorem dX8_busiest_38 : decode cX8_busiest 38 = .ok (.istore 6, 2) := by decide +kernel
theorem dX8_busiest_40 : decode cX8_busiest 40 = .ok (.iload 6, 2) := by decide +kernel
theorem dX8_busiest_42 : decode cX8_busiest 42 = .ok (.iload_n 1, 1) := by decide +kernel
theorem dX8_busiest_43 : decode cX8_busiest 43 = .ok (.if_icmp .ge 68, 3) := by decide +kernel
theorem dX8_busiest_46 : decode cX8_busiest 46 = .ok (.aload_n 0, 1) := by decide +kernel
theorem dX8_busiest_47 : decode cX8_busiest 47 = .ok (.getfield 16, 3) := by decide +kernel
theorem dX8_busiest_50 : decode cX8_busiest 50 = .ok (.invokevirtual 90, 3) := by decide +kernel
theorem dX8_busiest_53 : decode cX8_busiest 53 = .ok (.aload_n 0, 1) := by decide +kernel
theorem dX8_busiest_54 : decode cX8_busiest 54 = .ok (.getfield 16, 3) := by decide +kernel
theorem dX8_busiest_57 : decode cX8_busiest 57 = .ok (.getfield 189, 3) := by decide +kernel
theorem dX8_busiest_60 : decode cX8_busiest 60 = .ok (.getfield 202, 3) := by decide +kernel
theorem dX8_busiest_63 : decode cX8_busiest 63 = .ok (.istore 7, 2) := by decide +kernel
theorem dX8_busiest_65 : decode cX8_busiest 65 = .ok (.iload 7, 2) := by decide +kernel
theorem dX8_busiest_67 : decode cX8_busiest 67 = .ok (.iload 4, 2) := by decide +kernel
theorem dX8_busiest_69 : decode cX8_busiest 69 = .ok (.if_icmp .le 21, 3) := by decide +kernel
theorem dX8_busiest_72 : decode cX8_busiest 72 = .ok (.aload_n 0, 1) := by decide +kernel
theorem dX8_busiest_73 : decode cX8_busiest 73 = .ok (.getfield 16, 3) := by decide +kernel
theorem dX8_busiest_76 : decode cX8_busiest 76 = .ok (.getfield 123, 3) := by decide +kernel
theorem dX8_busiest_79 : decode cX8_busiest 79 = .ok (.istore_n 3, 1) := by decide +kernel
theorem dX8_busiest_80 : decode cX8_busiest 80 = .ok (.iload 7, 2) := by decide +kernel
theorem dX8_busiest_82 : decode cX8_busiest 82 = .ok (.istore 4, 2) := by decide +kernel
theorem dX8_busiest_84 : decode cX8_busiest 84 = .ok (.iconst 0, 1) := by decide +kernel
theorem dX8_busiest_85 : decode cX8_busiest 85 = .ok (.istore 5, 2) := by decide +kernel
theorem dX8_busiest_87 : decode cX8_busiest 87 = .ok (.goto 18, 3) := by decide +kernel
theorem dX8_busiest_90 : decode cX8_busiest 90 = .ok (.iload 7, 2) := by decide +kernel
theorem dX8_busiest_92 : decode cX8_busiest 92 = .ok (.iload 4, 2) := by decide +kernel
theorem dX8_busiest_94 : decode cX8_busiest 94 = .ok (.if_icmp .ne 11, 3) := by decide +kernel
theorem dX8_busiest_97 : decode cX8_busiest 97 = .ok (.iload 4, 2) := by decide +kernel
theorem dX8_busiest_99 : decode cX8_busiest 99 = .ok (.ifCond .le 6, 3) := by decide +kernel
theorem dX8_busiest_102 : decode cX8_busiest 102 = .ok (.iconst 1, 1) := by decide +kernel
theorem dX8_busiest_103 : decode cX8_busiest 103 = .ok (.istore 5, 2) := by decide +kernel
theorem dX8_busiest_105 : decode cX8_busiest 105 = .ok (.iinc 6 1, 3) := by decide +kernel
theorem dX8_busiest_108 : decode cX8_busiest 108 = .ok (.goto (-68), 3) := by decide +kernel
theorem dX8_busiest_111 : decode cX8_busiest 111 = .ok (.aload_n 0, 1) := by decide +kernel
theorem dX8_busiest_112 : decode cX8_busiest 112 = .ok (.getfield 33, 3) := by decide +kernel
theorem dX8_busiest_115 : decode cX8_busiest 115 = .ok (.invokevirtual 209, 3) := by decide +kernel
theorem dX8_busiest_118 : decode cX8_busiest 118 = .ok (.aload_n 0, 1) := by decide +kernel
theorem dX8_busiest_119 : decode cX8_busiest 119 = .ok (.getfield 33, 3) := by decide +kernel
theorem dX8_busiest_122 : decode cX8_busiest 122 = .ok (.iload 4, 2) := by decide +kernel
theorem dX8_busiest_124 : decode cX8_busiest 124 = .ok (.i2l, 1) := by decide +kernel
theorem dX8_busiest_125 : decode cX8_busiest 125 = .ok (.invokevirtual 210, 3) := by decide +kernel
theorem dX8_busiest_128 : decode cX8_busiest 128 = .ok (.aload_n 0, 1) := by decide +kernel
theorem dX8_busiest_129 : decode cX8_busiest 129 = .ok (.getfield 33, 3) := by decide +kernel
theorem dX8_busiest_132 : decode cX8_busiest 132 = .ok (.iload 5, 2) := by decide +kernel
theorem dX8_busiest_134 : decode cX8_busiest 134 = .ok (.i2l, 1) := by decide +kernel
theorem dX8_busiest_135 : decode cX8_busiest 135 = .ok (.invokevirtual 210, 3) := by decide +kernel
theorem dX8_busiest_138 : decode cX8_busiest 138 = .ok (.iload_n 3, 1) := by decide +kernel
theorem dX8_busiest_139 : decode cX8_busiest 139 = .ok (.ireturn, 1) := by decide +kernel
theorem dX8_till_0 : decode cX8_till 0 = .ok (.iload_n 1, 1) := by decide +kernel
theorem dX8_till_1 : decode cX8_till 1 = .ok (.iconst 1, 1) := by decide +kernel
theorem dX8_till_2 : decode cX8_till 2 = .ok (.bipush 100, 2) := by decide +kernel
theorem dX8_till_4 : decode cX8_till 4 = .ok (.invokestatic 79, 3) := by decide +kernel
theorem dX8_till_7 : decode cX8_till 7 = .ok (.ifCond .ne 5, 3) := by decide +kernel
theorem dX8_till_10 : decode cX8_till 10 = .ok (.iconst (-1), 1) := by decide +kernel
theorem dX8_till_11 : decode cX8_till 11 = .ok (.ireturn, 1) := by decide +kernel
theorem dX8_till_12 : decode cX8_till 12 = .ok (.aload_n 0, 1) := by decide +kernel
theorem dX8_till_13 : decode cX8_till 13 = .ok (.bipush 100, 2) := by decide +kernel
theorem dX8_till_15 : decode cX8_till 15 = .ok (.invokevirtual 86, 3) := by decide +kernel
theorem dX8_till_18 : decode cX8_till 18 = .ok (.istore_n 2, 1) := by decide +kernel
theorem dX8_till_19 : decode cX8_till 19 = .ok (.iload_n 2, 1) := by decide +kernel
theorem dX8_till_20 : decode cX8_till 20 = .ok (.ifCond .ge 5, 3) := by decide +kernel
theorem dX8_till_23 : decode cX8_till 23 = .ok (.iload_n 2, 1) := by decide +kernel
theorem dX8_till_24 : decode cX8_till 24 = .ok (.ireturn, 1) := by decide +kernel
theorem dX8_till_25 : decode cX8_till 25 = .ok (.aload_n 0, 1) := by decide +kernel
theorem dX8_till_26 : decode cX8_till 26 = .ok (.getfield 16, 3) := by decide +kernel
theorem dX8_till_29 : decode cX8_till 29 = .ok (.aload_n 0, 1) := by decide +kernel
theorem dX8_till_30 : decode cX8_till 30 = .ok (.getfield 10, 3) := by decide +kernel
theorem dX8_till_33 : decode cX8_till 33 = .ok (.invokevirtual 268, 3) := by decide +kernel
theorem dX8_till_36 : decode cX8_till 36 = .ok (.iconst 0, 1) := by decide +kernel
theorem dX8_till_37 : decode cX8_till 37 = .ok (.istore_n 3, 1) := by decide +kernel
theorem dX8_till_38 : decode cX8_till 38 = .ok (.iconst 0, 1) := by decide +kernel
theorem dX8_till_39 : decode cX8_till 39 = .ok (.istore 4, 2) := by decide +kernel
theorem dX8_till_41 : decode cX8_till 41 = .ok (.iload 4, 2) := by decide +kernel
theorem dX8_till_43 : decode cX8_till 43 = .ok (.bipush 100, 2) := by decide +kernel
theorem dX8_till_45 : decode cX8_till 45 = .ok (.if_icmp .ge 34, 3) := by decide +kernel
theorem dX8_till_48 : decode cX8_till 48 = .ok (.iload_n 3, 1) := by decide +kernel
theorem dX8_till_49 : decode cX8_till 49 = .ok (.iload_n 1, 1) := by decide +kernel
theorem dX8_till_50 : decode cX8_till 50 = .ok (.if_icmp .ge 29, 3) := by decide +kernel
theorem dX8_till_53 : decode cX8_till 53 = .ok (.aload_n 0, 1) := by decide +kernel
theorem dX8_till_54 : decode cX8_till 54 = .ok (.getfield 16, 3) := by decide +kernel
theorem dX8_till_57 : decode cX8_till 57 = .ok (.invokevirtual 90, 3) := by decide +kernel
theorem dX8_till_60 : decode cX8_till 60 = .ok (.iload_n 3, 1) := by decide +kernel
theorem dX8_till_61 : decode cX8_till 61 = .ok (.aload_n 0, 1) := by decide +kernel
theorem dX8_till_62 : decode cX8_till 62 = .ok (.getfield 16, 3) := by decide +kernel
theorem dX8_till_65 : decode cX8_till 65 = .ok (.getfield 189, 3) := by decide +kernel
theorem dX8_till_68 : decode cX8_till 68 = .ok (.getfield 202, 3) := by decide +kernel
theorem dX8_till_71 : decode cX8_till 71 = .ok (.iadd, 1) := by decide +kernel
theorem dX8_till_72 : decode cX8_till 72 = .ok (.istore_n 3, 1) := by decide +kernel
theorem dX8_till_73 : decode cX8_till 73 = .ok (.iinc 4 1, 3) := by decide +kernel
theorem dX8_till_76 : decode cX8_till 76 = .ok (.goto (-35), 3) := by decide +kernel
theorem dX8_till_79 : decode cX8_till 79 = .ok (.iload_n 3, 1) := by decide +kernel
theorem dX8_till_80 : decode cX8_till 80 = .ok (.iload_n 1, 1) := by decide +kernel
theorem dX8_till_81 : decode cX8_till 81 = .ok (.if_icmp .ge 6, 3) := by decide +kernel
theorem dX8_till_84 : decode cX8_till 84 = .ok (.bipush (-2), 2) := by decide +kernel
theorem dX8_till_86 : decode cX8_till 86 = .ok (.ireturn, 1) := by decide +kernel
theorem dX8_till_87 : decode cX8_till 87 = .ok (.aload_n 0, 1) := by decide +kernel
theorem dX8_till_88 : decode cX8_till 88 = .ok (.getfield 33, 3) := by decide +kernel
theorem dX8_till_91 : decode cX8_till 91 = .ok (.invokevirtual 209, 3) := by decide +kernel
theorem dX8_till_94 : decode cX8_till 94 = .ok (.aload_n 0, 1) := by decide +kernel
theorem dX8_till_95 : decode cX8_till 95 = .ok (.getfield 33, 3) := by decide +kernel
theorem dX8_till_98 : decode cX8_till 98 = .ok (.iload_n 3, 1) := by decide +kernel
theorem dX8_till_99 : decode cX8_till 99 = .ok (.i2l, 1) := by decide +kernel
theorem dX8_till_100 : decode cX8_till 100 = .ok (.invokevirtual 210, 3) := by decide +kernel
theorem dX8_till_103 : decode cX8_till 103 = .ok (.aload_n 0, 1) := by decide +kernel
theorem dX8_till_104 : decode cX8_till 104 = .ok (.getfield 33, 3) := by decide +kernel
theorem dX8_till_107 : decode cX8_till 107 = .ok (.aload_n 0, 1) := by decide +kernel
theorem dX8_till_108 : decode cX8_till 108 = .ok (.getfield 16, 3) := by decide +kernel
theorem dX8_till_111 : decode cX8_till 111 = .ok (.getfield 302, 3) := by decide +kernel
theorem dX8_till_114 : decode cX8_till 114 = .ok (.aload_n 0, 1) := by decide +kernel
theorem dX8_till_115 : decode cX8_till 115 = .ok (.getfield 10, 3) := by decide +kernel
theorem dX8_till_118 : decode cX8_till 118 = .ok (.getfield 302, 3) := by decide +kernel
theorem dX8_till_121 : decode cX8_till 121 = .ok (.isub, 1) := by decide +kernel
theorem dX8_till_122 : decode cX8_till 122 = .ok (.i2l, 1) := by decide +kernel
theorem dX8_till_123 : decode cX8_till 123 = .ok (.invokevirtual 210, 3) := by decide +kernel
theorem dX8_till_126 : decode cX8_till 126 = .ok (.aload_n 0, 1) := by decide +kernel
theorem dX8_till_127 : decode cX8_till 127 = .ok (.getfield 16, 3) := by decide +kernel
theorem dX8_till_130 : decode cX8_till 130 = .ok (.getfield 123, 3) := by decide +kernel
theorem dX8_till_133 : decode cX8_till 133 = .ok (.ireturn, 1) := by decide +kernel
theorem dX8_loudest_0 : decode cX8_loudest 0 = .ok (.aload_n 0, 1) := by decide +kernel
theorem dX8_loudest_1 : decode cX8_loudest 1 = .ok (.iload_n 1, 1) := by decide +kernel
theorem dX8_loudest_2 : decode cX8_loudest 2 = .ok (.invokevirtual 86, 3) := by decide +kernel
theorem dX8_loudest_5 : decode cX8_loudest 5 = .ok (.istore_n 2, 1) := by decide +kernel
theorem dX8_loudest_6 : decode cX8_loudest 6 = .ok (.iload_n 2, 1) := by decide +kernel
theorem dX8_loudest_7 : decode cX8_loudest 7 = .ok (.ifCond .ge 5, 3) := by decide +kernel
theorem dX8_loudest_10 : decode cX8_loudest 10 = .ok (.iload_n 2, 1) := by decide +kernel
theorem dX8_loudest_11 : decode cX8_loudest 11 = .ok (.ireturn, 1) := by decide +kernel
theorem dX8_loudest_12 : decode cX8_loudest 12 = .ok (.aload_n 0, 1) := by decide +kernel
theorem dX8_loudest_13 : decode cX8_loudest 13 = .ok (.getfield 26, 3) := by decide +kernel
theorem dX8_loudest_16 : decode cX8_loudest 16 = .ok (.astore_n 3, 1) := by decide +kernel
theorem dX8_loudest_17 : decode cX8_loudest 17 = .ok (.aload_n 3, 1) := by decide +kernel
theorem dX8_loudest_18 : decode cX8_loudest 18 = .ok (.iconst 0, 1) := by decide +kernel
theorem dX8_loudest_19 : decode cX8_loudest 19 = .ok (.invokestatic 305, 3) := by decide +kernel
theorem dX8_loudest_22 : decode cX8_loudest 22 = .ok (.aload_n 0, 1) := by decide +kernel
theorem dX8_loudest_23 : decode cX8_loudest 23 = .ok (.getfield 16, 3) := by decide +kernel
theorem dX8_loudest_26 : decode cX8_loudest 26 = .ok (.aload_n 0, 1) := by decide +kernel
theorem dX8_loudest_27 : decode cX8_loudest 27 = .ok (.getfield 10, 3) := by decide +kernel
theorem dX8_loudest_30 : decode cX8_loudest 30 = .ok (.invokevirtual 268, 3) := by decide +kernel
theorem dX8_loudest_33 : decode cX8_loudest 33 = .ok (.iconst 0, 1) := by decide +kernel
theorem dX8_loudest_34 : decode cX8_loudest 34 = .ok (.istore 4, 2) := by decide +kernel
theorem dX8_loudest_36 : decode cX8_loudest 36 = .ok (.iload 4, 2) := by decide +kernel
theorem dX8_loudest_38 : decode cX8_loudest 38 = .ok (.iload_n 1, 1) := by decide +kernel
theorem dX8_loudest_39 : decode cX8_loudest 39 = .ok (.if_icmp .ge 27, 3) := by decide +kernel
theorem dX8_loudest_42 : decode cX8_loudest 42 = .ok (.aload_n 0, 1) := by decide +kernel
theorem dX8_loudest_43 : decode cX8_loudest 43 = .ok (.getfield 16, 3) := by decide +kernel
theorem dX8_loudest_46 : decode cX8_loudest 46 = .ok (.invokevirtual 90, 3) := by decide +kernel
theorem dX8_loudest_49 : decode cX8_loudest 49 = .ok (.aload_n 0, 1) := by decide +kernel
theorem dX8_loudest_50 : decode cX8_loudest 50 = .ok (.getfield 16, 3) := by decide +kernel
theorem dX8_loudest_53 : decode cX8_loudest 53 = .ok (.getfield 189, 3) := by decide +kernel
theorem dX8_loudest_56 : decode cX8_loudest 56 = .ok (.aload_n 3, 1) := by decide +kernel
theorem dX8_loudest_57 : decode cX8_loudest 57 = .ok (.invokestatic 311, 3) := by decide +kernel
theorem dX8_loudest_60 : decode cX8_loudest 60 = .ok (.iinc 4 1, 3) := by decide +kernel
theorem dX8_loudest_63 : decode cX8_loudest 63 = .ok (.goto (-27), 3) := by decide +kernel
theorem dX8_loudest_66 : decode cX8_loudest 66 = .ok (.iconst 0, 1) := by decide +kernel
theorem dX8_loudest_67 : decode cX8_loudest 67 = .ok (.istore 4, 2) := by decide +kernel
theorem dX8_loudest_69 : decode cX8_loudest 69 = .ok (.iconst 1, 1) := by decide +kernel
theorem dX8_loudest_70 : decode cX8_loudest 70 = .ok (.istore 5, 2) := by decide +kernel
theorem dX8_loudest_72 : decode cX8_loudest 72 = .ok (.iload 5, 2) := by decide +kernel
theorem dX8_loudest_74 : decode cX8_loudest 74 = .ok (.bipush 8, 2) := by decide +kernel
theorem dX8_loudest_76 : decode cX8_loudest 76 = .ok (.if_icmp .ge 24, 3) := by decide +kernel
theorem dX8_loudest_79 : decode cX8_loudest 79 = .ok (.aload_n 3, 1) := by decide +kernel
theorem dX8_loudest_80 : decode cX8_loudest 80 = .ok (.iload 5, 2) := by decide +kernel
theorem dX8_loudest_82 : decode cX8_loudest 82 = .ok (.iaload, 1) := by decide +kernel
theorem dX8_loudest_83 : decode cX8_loudest 83 = .ok (.aload_n 3, 1) := by decide +kernel
theorem dX8_loudest_84 : decode cX8_loudest 84 = .ok (.iload 4, 2) := by decide +kernel
theorem dX8_loudest_86 : decode cX8_loudest 86 = .ok (.iaload, 1) := by decide +kernel
theorem dX8_loudest_87 : decode cX8_loudest 87 = .ok (.if_icmp .le 7, 3) := by decide +kernel
theorem dX8_loudest_90 : decode cX8_loudest 90 = .ok (.iload 5, 2) := by decide +kernel
theorem dX8_loudest_92 : decode cX8_loudest 92 = .ok (.istore 4, 2) := by decide +kernel
theorem dX8_loudest_94 : decode cX8_loudest 94 = .ok (.iinc 5 1, 3) := by decide +kernel
theorem dX8_loudest_97 : decode cX8_loudest 97 = .ok (.goto (-25), 3) := by decide +kernel
theorem dX8_loudest_100 : decode cX8_loudest 100 = .ok (.aload_n 3, 1) := by decide +kernel
theorem dX8_loudest_101 : decode cX8_loudest 101 = .ok (.iload 4, 2) := by decide +kernel
theorem dX8_loudest_103 : decode cX8_loudest 103 = .ok (.iaload, 1) := by decide +kernel
theorem dX8_loudest_104 : decode cX8_loudest 104 = .ok (.ifCond .ne 6, 3) := by decide +kernel
theorem dX8_loudest_107 : decode cX8_loudest 107 = .ok (.bipush (-2), 2) := by decide +kernel
theorem dX8_loudest_109 : decode cX8_loudest 109 = .ok (.ireturn, 1) := by decide +kernel
theorem dX8_loudest_110 : decode cX8_loudest 110 = .ok (.aload_n 0, 1) := by decide +kernel
theorem dX8_loudest_111 : decode cX8_loudest 111 = .ok (.getfield 33, 3) := by decide +kernel
theorem dX8_loudest_114 : decode cX8_loudest 114 = .ok (.invokevirtual 209, 3) := by decide +kernel
theorem dX8_loudest_117 : decode cX8_loudest 117 = .ok (.iconst 0, 1) := by decide +kernel
theorem dX8_loudest_118 : decode cX8_loudest 118 = .ok (.istore 5, 2) := by decide +kernel
theorem dX8_loudest_120 : decode cX8_loudest 120 = .ok (.iload 5, 2) := by decide +kernel
theorem dX8_loudest_122 : decode cX8_loudest 122 = .ok (.bipush 8, 2) := by decide +kernel
theorem dX8_loudest_124 : decode cX8_loudest 124 = .ok (.if_icmp .ge 21, 3) := by decide +kernel
theorem dX8_loudest_127 : decode cX8_loudest 127 = .ok (.aload_n 0, 1) := by decide +kernel
theorem dX8_loudest_128 : decode cX8_loudest 128 = .ok (.getfield 33, 3) := by decide +kernel
theorem dX8_loudest_131 : decode cX8_loudest 131 = .ok (.aload_n 3, 1) := by decide +kernel
theorem dX8_loudest_132 : decode cX8_loudest 132 = .ok (.iload 5, 2) := by decide +kernel
theorem dX8_loudest_134 : decode cX8_loudest 134 = .ok (.iaload, 1) := by decide +kernel
theorem dX8_loudest_135 : decode cX8_loudest 135 = .ok (.i2l, 1) := by decide +kernel
theorem dX8_loudest_136 : decode cX8_loudest 136 = .ok (.invokevirtual 210, 3) := by decide +kernel
theorem dX8_loudest_139 : decode cX8_loudest 139 = .ok (.iinc 5 1, 3) := by decide +kernel
theorem dX8_loudest_142 : decode cX8_loudest 142 = .ok (.goto (-22), 3) := by decide +kernel
theorem dX8_loudest_145 : decode cX8_loudest 145 = .ok (.iload 4, 2) := by decide +kernel
theorem dX8_loudest_147 : decode cX8_loudest 147 = .ok (.ireturn, 1) := by decide +kernel
theorem dX8_clashes_0 : decode cX8_clashes 0 = .ok (.aload_n 0, 1) := by decide +kernel
theorem dX8_clashes_1 : decode cX8_clashes 1 = .ok (.iload_n 1, 1) := by decide +kernel
theorem dX8_clashes_2 : decode cX8_clashes 2 = .ok (.invokevirtual 86, 3) := by decide +kernel
theorem dX8_clashes_5 : decode cX8_clashes 5 = .ok (.istore_n 2, 1) := by decide +kernel
theorem dX8_clashes_6 : decode cX8_clashes 6 = .ok (.iload_n 2, 1) := by decide +kernel
theorem dX8_clashes_7 : decode cX8_clashes 7 = .ok (.ifCond .ge 5, 3) := by decide +kernel
theorem dX8_clashes_10 : decode cX8_clashes 10 = .ok (.iload_n 2, 1) := by decide +kernel
theorem dX8_clashes_11 : decode cX8_clashes 11 = .ok (.ireturn, 1) := by decide +kernel
theorem dX8_clashes_12 : decode cX8_clashes 12 = .ok (.aload_n 0, 1) := by decide +kernel
theorem dX8_clashes_13 : decode cX8_clashes 13 = .ok (.getfield 16, 3) := by decide +kernel
theorem dX8_clashes_16 : decode cX8_clashes 16 = .ok (.aload_n 0, 1) := by decide +kernel
theorem dX8_clashes_17 : decode cX8_clashes 17 = .ok (.getfield 10, 3) := by decide +kernel
theorem dX8_clashes_20 : decode cX8_clashes 20 = .ok (.invokevirtual 268, 3) := by decide +kernel
theorem dX8_clashes_23 : decode cX8_clashes 23 = .ok (.aload_n 0, 1) := by decide +kernel
theorem dX8_clashes_24 : decode cX8_clashes 24 = .ok (.getfield 33, 3) := by decide +kernel
theorem dX8_clashes_27 : decode cX8_clashes 27 = .ok (.invokevirtual 209, 3) := by decide +kernel
theorem dX8_clashes_30 : decode cX8_clashes 30 = .ok (.iconst 0, 1) := by decide +kernel
theorem dX8_clashes_31 : decode cX8_clashes 31 = .ok (.istore_n 3, 1) := by decide +kernel
theorem dX8_clashes_32 : decode cX8_clashes 32 = .ok (.iconst 0, 1) := by decide +kernel
theorem dX8_clashes_33 : decode cX8_clashes 33 = .ok (.istore 4, 2) := by decide +kernel
theorem dX8_clashes_35 : decode cX8_clashes 35 = .ok (.iload 4, 2) := by decide +kernel
theorem dX8_clashes_37 : decode cX8_clashes 37 = .ok (.iload_n 1, 1) := by decide +kernel
theorem dX8_clashes_38 : decode cX8_clashes 38 = .ok (.if_icmp .ge 111, 3) := by decide +kernel
theorem dX8_clashes_41 : decode cX8_clashes 41 = .ok (.aload_n 0, 1) := by decide +kernel
theorem dX8_clashes_42 : decode cX8_clashes 42 = .ok (.getfield 16, 3) := by decide +kernel
theorem dX8_clashes_45 : decode cX8_clashes 45 = .ok (.invokevirtual 90, 3) := by decide +kernel
theorem dX8_clashes_48 : decode cX8_clashes 48 = .ok (.aload_n 0, 1) := by decide +kernel
theorem dX8_clashes_49 : decode cX8_clashes 49 = .ok (.getfield 16, 3) := by decide +kernel
theorem dX8_clashes_52 : decode cX8_clashes 52 = .ok (.getfield 189, 3) := by decide +kernel
theorem dX8_clashes_55 : decode cX8_clashes 55 = .ok (.getfield 202, 3) := by decide +kernel
theorem dX8_clashes_58 : decode cX8_clashes 58 = .ok (.iconst 1, 1) := by decide +kernel
theorem dX8_clashes_59 : decode cX8_clashes 59 = .ok (.if_icmp .le 6, 3) := by decide +kernel
theorem dX8_clashes_62 : decode cX8_clashes 62 = .ok (.iinc 3 1, 3) := by decide +kernel
theorem dX8_clashes_65 : decode cX8_clashes 65 = .ok (.aload_n 0, 1) := by decide +kernel
theorem dX8_clashes_66 : decode cX8_clashes 66 = .ok (.getfield 16, 3) := by decide +kernel
theorem dX8_clashes_69 : decode cX8_clashes 69 = .ok (.getfield 189, 3) := by decide +kernel
theorem dX8_clashes_72 : decode cX8_clashes 72 = .ok (.getfield 202, 3) := by decide +kernel
theorem dX8_clashes_75 : decode cX8_clashes 75 = .ok (.iconst 1, 1) := by decide +kernel
theorem dX8_clashes_76 : decode cX8_clashes 76 = .ok (.if_icmp .le 67, 3) := by decide +kernel
theorem dX8_clashes_79 : decode cX8_clashes 79 = .ok (.iload_n 3, 1) := by decide +kernel
theorem dX8_clashes_80 : decode cX8_clashes 80 = .ok (.iconst 1, 1) := by decide +kernel
theorem dX8_clashes_81 : decode cX8_clashes 81 = .ok (.if_icmp .ne 62, 3) := by decide +kernel
theorem dX8_clashes_84 : decode cX8_clashes 84 = .ok (.aload_n 0, 1) := by decide +kernel
theorem dX8_clashes_85 : decode cX8_clashes 85 = .ok (.getfield 33, 3) := by decide +kernel
theorem dX8_clashes_88 : decode cX8_clashes 88 = .ok (.aload_n 0, 1) := by decide +kernel
theorem dX8_clashes_89 : decode cX8_clashes 89 = .ok (.getfield 16, 3) := by decide +kernel
theorem dX8_clashes_92 : decode cX8_clashes 92 = .ok (.getfield 123, 3) := by decide +kernel
theorem dX8_clashes_95 : decode cX8_clashes 95 = .ok (.i2l, 1) := by decide +kernel
theorem dX8_clashes_96 : decode cX8_clashes 96 = .ok (.invokevirtual 210, 3) := by decide +kernel
theorem dX8_clashes_99 : decode cX8_clashes 99 = .ok (.aload_n 0, 1) := by decide +kernel
theorem dX8_clashes_100 : decode cX8_clashes 100 = .ok (.getfield 33, 3) := by decide +kernel
theorem dX8_clashes_103 : decode cX8_clashes 103 = .ok (.aload_n 0, 1) := by decide +kernel
theorem dX8_clashes_104 : decode cX8_clashes 104 = .ok (.getfield 16, 3) := by decide +kernel
theorem dX8_clashes_107 : decode cX8_clashes 107 = .ok (.getfield 189, 3) := by decide +kernel
theorem dX8_clashes_110 : decode cX8_clashes 110 = .ok (.iconst 0, 1) := by decide +kernel
theorem dX8_clashes_111 : decode cX8_clashes 111 = .ok (.invokevirtual 297, 3) := by decide +kernel
theorem dX8_clashes_114 : decode cX8_clashes 114 = .ok (.invokestatic 315, 3) := by decide +kernel
theorem dX8_clashes_117 : decode cX8_clashes 117 = .ok (.i2l, 1) := by decide +kernel
theorem dX8_clashes_118 : decode cX8_clashes 118 = .ok (.invokevirtual 210, 3) := by decide +kernel
theorem dX8_clashes_121 : decode cX8_clashes 121 = .ok (.aload_n 0, 1) := by decide +kernel
theorem dX8_clashes_122 : decode cX8_clashes 122 = .ok (.getfield 33, 3) := by decide +kernel
theorem dX8_clashes_125 : decode cX8_clashes 125 = .ok (.aload_n 0, 1) := by decide +kernel
theorem dX8_clashes_126 : decode cX8_clashes 126 = .ok (.getfield 16, 3) := by decide +kernel
theorem dX8_clashes_129 : decode cX8_clashes 129 = .ok (.getfield 189, 3) := by decide +kernel
theorem dX8_clashes_132 : decode cX8_clashes 132 = .ok (.iconst 1, 1) := by decide +kernel
theorem dX8_clashes_133 : decode cX8_clashes 133 = .ok (.invokevirtual 297, 3) := by decide +kernel
theorem dX8_clashes_136 : decode cX8_clashes 136 = .ok (.invokestatic 315, 3) := by decide +kernel
theorem dX8_clashes_139 : decode cX8_clashes 139 = .ok (.i2l, 1) := by decide +kernel
theorem dX8_clashes_140 : decode cX8_clashes 140 = .ok (.invokevirtual 210, 3) := by decide +kernel
theorem dX8_clashes_143 : decode cX8_clashes 143 = .ok (.iinc 4 1, 3) := by decide +kernel
theorem dX8_clashes_146 : decode cX8_clashes 146 = .ok (.goto (-111), 3) := by decide +kernel
theorem dX8_clashes_149 : decode cX8_clashes 149 = .ok (.iconst 0, 1) := by decide +kernel
theorem dX8_clashes_150 : decode cX8_clashes 150 = .ok (.istore 4, 2) := by decide +kernel
theorem dX8_clashes_152 : decode cX8_clashes 152 = .ok (.iload 4, 2) := by decide +kernel
theorem dX8_clashes_154 : decode cX8_clashes 154 = .ok (.iconst 3, 1) := by decide +kernel
theorem dX8_clashes_155 : decode cX8_clashes 155 = .ok (.if_icmp .ge 23, 3) := by decide +kernel
theorem dX8_clashes_158 : decode cX8_clashes 158 = .ok (.iload_n 3, 1) := by decide +kernel
theorem dX8_clashes_159 : decode cX8_clashes 159 = .ok (.ifCond .ne 19, 3) := by decide +kernel
theorem dX8_clashes_162 : decode cX8_clashes 162 = .ok (.aload_n 0, 1) := by decide +kernel
theorem dX8_clashes_163 : decode cX8_clashes 163 = .ok (.getfield 33, 3) := by decide +kernel
theorem dX8_clashes_166 : decode cX8_clashes 166 = .ok (.ldc2_w 300, 3) := by decide +kernel
theorem dX8_clashes_169 : decode cX8_clashes 169 = .ok (.invokevirtual 210, 3) := by decide +kernel
theorem dX8_clashes_172 : decode cX8_clashes 172 = .ok (.iinc 4 1, 3) := by decide +kernel
theorem dX8_clashes_175 : decode cX8_clashes 175 = .ok (.goto (-23), 3) := by decide +kernel
theorem dX8_clashes_178 : decode cX8_clashes 178 = .ok (.iload_n 3, 1) := by decide +kernel
theorem dX8_clashes_179 : decode cX8_clashes 179 = .ok (.ireturn, 1) := by decide +kernel
theorem dX8_rung_0 : decode cX8_rung 0 = .ok (.aload_n 0, 1) := by decide +kernel
theorem dX8_rung_1 : decode cX8_rung 1 = .ok (.getfield 40, 3) := by decide +kernel
theorem dX8_rung_4 : decode cX8_rung 4 = .ok (.iload_n 1, 1) := by decide +kernel
theorem dX8_rung_5 : decode cX8_rung 5 = .ok (.invokevirtual 319, 3) := by decide +kernel
theorem dX8_rung_8 : decode cX8_rung 8 = .ok (.istore_n 2, 1) := by decide +kernel
theorem dX8_rung_9 : decode cX8_rung 9 = .ok (.iload_n 2, 1) := by decide +kernel
theorem dX8_rung_10 : decode cX8_rung 10 = .ok (.ifCond .ge 5, 3) := by decide +kernel
theorem dX8_rung_13 : decode cX8_rung 13 = .ok (.iconst (-1), 1) := by decide +kernel
theorem dX8_rung_14 : decode cX8_rung 14 = .ok (.ireturn, 1) := by decide +kernel
theorem dX8_rung_15 : decode cX8_rung 15 = .ok (.aload_n 0, 1) := by decide +kernel
theorem dX8_rung_16 : decode cX8_rung 16 = .ok (.getfield 33, 3) := by decide +kernel
theorem dX8_rung_19 : decode cX8_rung 19 = .ok (.invokevirtual 209, 3) := by decide +kernel
theorem dX8_rung_22 : decode cX8_rung 22 = .ok (.aload_n 0, 1) := by decide +kernel
theorem dX8_rung_23 : decode cX8_rung 23 = .ok (.getfield 33, 3) := by decide +kernel
theorem dX8_rung_26 : decode cX8_rung 26 = .ok (.aload_n 0, 1) := by decide +kernel
theorem dX8_rung_27 : decode cX8_rung 27 = .ok (.getfield 40, 3) := by decide +kernel
theorem dX8_rung_30 : decode cX8_rung 30 = .ok (.getfield 322, 3) := by decide +kernel
theorem dX8_rung_33 : decode cX8_rung 33 = .ok (.iload_n 2, 1) := by decide +kernel
theorem dX8_rung_34 : decode cX8_rung 34 = .ok (.iaload, 1) := by decide +kernel
theorem dX8_rung_35 : decode cX8_rung 35 = .ok (.i2l, 1) := by decide +kernel
theorem dX8_rung_36 : decode cX8_rung 36 = .ok (.invokevirtual 210, 3) := by decide +kernel
theorem dX8_rung_39 : decode cX8_rung 39 = .ok (.aload_n 0, 1) := by decide +kernel
theorem dX8_rung_40 : decode cX8_rung 40 = .ok (.getfield 33, 3) := by decide +kernel
theorem dX8_rung_43 : decode cX8_rung 43 = .ok (.aload_n 0, 1) := by decide +kernel
theorem dX8_rung_44 : decode cX8_rung 44 = .ok (.getfield 40, 3) := by decide +kernel
theorem dX8_rung_47 : decode cX8_rung 47 = .ok (.getfield 325, 3) := by decide +kernel
theorem dX8_rung_50 : decode cX8_rung 50 = .ok (.iload_n 2, 1) := by decide +kernel
theorem dX8_rung_51 : decode cX8_rung 51 = .ok (.iaload, 1) := by decide +kernel
theorem dX8_rung_52 : decode cX8_rung 52 = .ok (.i2l, 1) := by decide +kernel
theorem dX8_rung_53 : decode cX8_rung 53 = .ok (.invokevirtual 210, 3) := by decide +kernel
theorem dX8_rung_56 : decode cX8_rung 56 = .ok (.aload_n 0, 1) := by decide +kernel
theorem dX8_rung_57 : decode cX8_rung 57 = .ok (.getfield 33, 3) := by decide +kernel
theorem dX8_rung_60 : decode cX8_rung 60 = .ok (.aload_n 0, 1) := by decide +kernel
theorem dX8_rung_61 : decode cX8_rung 61 = .ok (.getfield 40, 3) := by decide +kernel
theorem dX8_rung_64 : decode cX8_rung 64 = .ok (.getfield 328, 3) := by decide +kernel
theorem dX8_rung_67 : decode cX8_rung 67 = .ok (.iload_n 2, 1) := by decide +kernel
theorem dX8_rung_68 : decode cX8_rung 68 = .ok (.iaload, 1) := by decide +kernel
theorem dX8_rung_69 : decode cX8_rung 69 = .ok (.i2l, 1) := by decide +kernel
theorem dX8_rung_70 : decode cX8_rung 70 = .ok (.invokevirtual 210, 3) := by decide +kernel
theorem dX8_rung_73 : decode cX8_rung 73 = .ok (.aload_n 0, 1) := by decide +kernel
theorem dX8_rung_74 : decode cX8_rung 74 = .ok (.getfield 33, 3) := by decide +kernel
theorem dX8_rung_77 : decode cX8_rung 77 = .ok (.aload_n 0, 1) := by decide +kernel
theorem dX8_rung_78 : decode cX8_rung 78 = .ok (.getfield 40, 3) := by decide +kernel
theorem dX8_rung_81 : decode cX8_rung 81 = .ok (.getfield 331, 3) := by decide +kernel
theorem dX8_rung_84 : decode cX8_rung 84 = .ok (.iload_n 2, 1) := by decide +kernel
theorem dX8_rung_85 : decode cX8_rung 85 = .ok (.iaload, 1) := by decide +kernel
theorem dX8_rung_86 : decode cX8_rung 86 = .ok (.i2l, 1) := by decide +kernel
theorem dX8_rung_87 : decode cX8_rung 87 = .ok (.invokevirtual 210, 3) := by decide +kernel
theorem dX8_rung_90 : decode cX8_rung 90 = .ok (.aload_n 0, 1) := by decide +kernel
theorem dX8_rung_91 : decode cX8_rung 91 = .ok (.getfield 40, 3) := by decide +kernel
theorem dX8_rung_94 : decode cX8_rung 94 = .ok (.getfield 334, 3) := by decide +kernel
theorem dX8_rung_97 : decode cX8_rung 97 = .ok (.iload_n 2, 1) := by decide +kernel
theorem dX8_rung_98 : decode cX8_rung 98 = .ok (.iaload, 1) := by decide +kernel
theorem dX8_rung_99 : decode cX8_rung 99 = .ok (.ireturn, 1) := by decide +kernel
theorem dX8_told_0 : decode cX8_told 0 = .ok (.iload_n 1, 1) := by decide +kernel
theorem dX8_told_1 : decode cX8_told 1 = .ok (.tableswitch 87 0 6 #[43, 51, 59, 67, 72, 77, 82], 43) := by decide +kernel
theorem dX8_told_44 : decode cX8_told 44 = .ok (.aload_n 0, 1) := by decide +kernel
theorem dX8_told_45 : decode cX8_told 45 = .ok (.getfield 40, 3) := by decide +kernel
theorem dX8_told_48 : decode cX8_told 48 = .ok (.getfield 224, 3) := by decide +kernel
theorem dX8_told_51 : decode cX8_told 51 = .ok (.ireturn, 1) := by decide +kernel
theorem dX8_told_52 : decode cX8_told 52 = .ok (.aload_n 0, 1) := by decide +kernel
theorem dX8_told_53 : decode cX8_told 53 = .ok (.getfield 10, 3) := by decide +kernel
theorem dX8_told_56 : decode cX8_told 56 = .ok (.getfield 302, 3) := by decide +kernel
theorem dX8_told_59 : decode cX8_told 59 = .ok (.ireturn, 1) := by decide +kernel
theorem dX8_told_60 : decode cX8_told 60 = .ok (.aload_n 0, 1) := by decide +kernel
theorem dX8_told_61 : decode cX8_told 61 = .ok (.getfield 10, 3) := by decide +kernel
theorem dX8_told_64 : decode cX8_told 64 = .ok (.getfield 337, 3) := by decide +kernel
theorem dX8_told_67 : decode cX8_told 67 = .ok (.ireturn, 1) := by decide +kernel
theorem dX8_told_68 : decode cX8_told 68 = .ok (.aload_n 0, 1) := by decide +kernel
theorem dX8_told_69 : decode cX8_told 69 = .ok (.getfield 162, 3) := by decide +kernel
theorem dX8_told_72 : decode cX8_told 72 = .ok (.ireturn, 1) := by decide +kernel
theorem dX8_told_73 : decode cX8_told 73 = .ok (.aload_n 0, 1) := by decide +kernel
theorem dX8_told_74 : decode cX8_told 74 = .ok (.getfield 108, 3) := by decide +kernel
theorem dX8_told_77 : decode cX8_told 77 = .ok (.ireturn, 1) := by decide +kernel
theorem dX8_told_78 : decode cX8_told 78 = .ok (.aload_n 0, 1) := by decide +kernel
theorem dX8_told_79 : decode cX8_told 79 = .ok (.getfield 111, 3) := by decide +kernel
theorem dX8_told_82 : decode cX8_told 82 = .ok (.ireturn, 1) := by decide +kernel
theorem dX8_told_83 : decode cX8_told 83 = .ok (.aload_n 0, 1) := by decide +kernel
theorem dX8_told_84 : decode cX8_told 84 = .ok (.getfield 126, 3) := by decide +kernel
theorem dX8_told_87 : decode cX8_told 87 = .ok (.ireturn, 1) := by decide +kernel
theorem dX8_told_88 : decode cX8_told 88 = .ok (.iconst (-1), 1) := by decide +kernel
theorem dX8_told_89 : decode cX8_told 89 = .ok (.ireturn, 1) := by decide +kernel
theorem dX8_count_0 : decode cX8_count 0 = .ok (.iload_n 1, 1) := by decide +kernel
theorem dX8_count_1 : decode cX8_count 1 = .ok (.tableswitch 144 0 9 #[55, 63, 74, 85, 93, 103, 112, 120, 128, 136], 55) := by decide +kernel
theorem dX8_count_56 : decode cX8_count 56 = .ok (.aload_n 0, 1) := by decide +kernel
theorem dX8_count_57 : decode cX8_count 57 = .ok (.getfield 10, 3) := by decide +kernel
theorem dX8_count_60 : decode cX8_count 60 = .ok (.getfield 123, 3) := by decide +kernel
theorem dX8_count_63 : decode cX8_count 63 = .ok (.ireturn, 1) := by decide +kernel
theorem dX8_count_64 : decode cX8_count 64 = .ok (.aload_n 0, 1) := by decide +kernel
theorem dX8_count_65 : decode cX8_count 65 = .ok (.getfield 10, 3) := by decide +kernel
theorem dX8_count_68 : decode cX8_count 68 = .ok (.getfield 62, 3) := by decide +kernel
theorem dX8_count_71 : decode cX8_count 71 = .ok (.getfield 75, 3) := by decide +kernel
theorem dX8_count_74 : decode cX8_count 74 = .ok (.ireturn, 1) := by decide +kernel
theorem dX8_count_75 : decode cX8_count 75 = .ok (.aload_n 0, 1) := by decide +kernel
theorem dX8_count_76 : decode cX8_count 76 = .ok (.getfield 10, 3) := by decide +kernel
theorem dX8_count_79 : decode cX8_count 79 = .ok (.getfield 62, 3) := by decide +kernel
theorem dX8_count_82 : decode cX8_count 82 = .ok (.getfield 340, 3) := by decide +kernel
theorem dX8_count_85 : decode cX8_count 85 = .ok (.ireturn, 1) := by decide +kernel
theorem dX8_count_86 : decode cX8_count 86 = .ok (.aload_n 0, 1) := by decide +kernel
theorem dX8_count_87 : decode cX8_count 87 = .ok (.getfield 10, 3) := by decide +kernel
theorem dX8_count_90 : decode cX8_count 90 = .ok (.invokevirtual 165, 3) := by decide +kernel
theorem dX8_count_93 : decode cX8_count 93 = .ok (.ireturn, 1) := by decide +kernel
theorem dX8_count_94 : decode cX8_count 94 = .ok (.aload_n 0, 1) := by decide +kernel
theorem dX8_count_95 : decode cX8_count 95 = .ok (.getfield 10, 3) := by decide +kernel
theorem dX8_count_98 : decode cX8_count 98 = .ok (.bipush (-2), 2) := by decide +kernel
theorem dX8_count_100 : decode cX8_count 100 = .ok (.invokevirtual 343, 3) := by decide +kernel
theorem dX8_count_103 : decode cX8_count 103 = .ok (.ireturn, 1) := by decide +kernel
theorem dX8_count_104 : decode cX8_count 104 = .ok (.aload_n 0, 1) := by decide +kernel
theorem dX8_count_105 : decode cX8_count 105 = .ok (.getfield 10, 3) := by decide +kernel
theorem dX8_count_108 : decode cX8_count 108 = .ok (.iconst (-1), 1) := by decide +kernel
theorem dX8_count_109 : decode cX8_count 109 = .ok (.invokevirtual 343, 3) := by decide +kernel
theorem dX8_count_112 : decode cX8_count 112 = .ok (.ireturn, 1) := by decide +kernel
theorem dX8_count_113 : decode cX8_count 113 = .ok (.aload_n 0, 1) := by decide +kernel
theorem dX8_count_114 : decode cX8_count 114 = .ok (.getfield 10, 3) := by decide +kernel
theorem dX8_count_117 : decode cX8_count 117 = .ok (.getfield 83, 3) := by decide +kernel
theorem dX8_count_120 : decode cX8_count 120 = .ok (.ireturn, 1) := by decide +kernel
theorem dX8_count_121 : decode cX8_count 121 = .ok (.aload_n 0, 1) := by decide +kernel
theorem dX8_count_122 : decode cX8_count 122 = .ok (.getfield 40, 3) := by decide +kernel
theorem dX8_count_125 : decode cX8_count 125 = .ok (.getfield 346, 3) := by decide +kernel
theorem dX8_count_128 : decode cX8_count 128 = .ok (.ireturn, 1) := by decide +kernel
theorem dX8_count_129 : decode cX8_count 129 = .ok (.aload_n 0, 1) := by decide +kernel
theorem dX8_count_130 : decode cX8_count 130 = .ok (.getfield 33, 3) := by decide +kernel
theorem dX8_count_133 : decode cX8_count 133 = .ok (.getfield 260, 3) := by decide +kernel
theorem dX8_count_136 : decode cX8_count 136 = .ok (.ireturn, 1) := by decide +kernel
theorem dX8_count_137 : decode cX8_count 137 = .ok (.aload_n 0, 1) := by decide +kernel
theorem dX8_count_138 : decode cX8_count 138 = .ok (.getfield 47, 3) := by decide +kernel
theorem dX8_count_141 : decode cX8_count 141 = .ok (.getfield 234, 3) := by decide +kernel
theorem dX8_count_144 : decode cX8_count 144 = .ok (.ireturn, 1) := by decide +kernel
theorem dX8_count_145 : decode cX8_count 145 = .ok (.iload_n 1, 1) := by decide +kernel
theorem dX8_count_146 : decode cX8_count 146 = .ok (.bipush 10, 2) := by decide +kernel
theorem dX8_count_148 : decode cX8_count 148 = .ok (.bipush 13, 2) := by decide +kernel
theorem dX8_count_150 : decode cX8_count 150 = .ok (.invokestatic 79, 3) := by decide +kernel
theorem dX8_count_153 : decode cX8_count 153 = .ok (.ifCond .eq 20, 3) := by decide +kernel
theorem dX8_count_156 : decode cX8_count 156 = .ok (.aload_n 0, 1) := by decide +kernel
theorem dX8_count_157 : decode cX8_count 157 = .ok (.getfield 10, 3) := by decide +kernel
theorem dX8_count_160 : decode cX8_count 160 = .ok (.getfield 62, 3) := by decide +kernel
theorem dX8_count_163 : decode cX8_count 163 = .ok (.iload_n 1, 1) := by decide +kernel
theorem dX8_count_164 : decode cX8_count 164 = .ok (.bipush 10, 2) := by decide +kernel
theorem dX8_count_166 : decode cX8_count 166 = .ok (.isub, 1) := by decide +kernel
theorem dX8_count_167 : decode cX8_count 167 = .ok (.invokevirtual 253, 3) := by decide +kernel
theorem dX8_count_170 : decode cX8_count 170 = .ok (.goto 4, 3) := by decide +kernel
theorem dX8_count_173 : decode cX8_count 173 = .ok (.iconst (-1), 1) := by decide +kernel
theorem dX8_count_174 : decode cX8_count 174 = .ok (.ireturn, 1) := by decide +kernel
theorem dX8_row_0 : decode cX8_row 0 = .ok (.iload_n 1, 1) := by decide +kernel
theorem dX8_row_1 : decode cX8_row 1 = .ok (.iconst 0, 1) := by decide +kernel
theorem dX8_row_2 : decode cX8_row 2 = .ok (.aload_n 0, 1) := by decide +kernel
theorem dX8_row_3 : decode cX8_row 3 = .ok (.getfield 33, 3) := by decide +kernel
theorem dX8_row_6 : decode cX8_row 6 = .ok (.getfield 260, 3) := by decide +kernel
theorem dX8_row_9 : decode cX8_row 9 = .ok (.iconst 1, 1) := by decide +kernel
theorem dX8_row_10 : decode cX8_row 10 = .ok (.isub, 1) := by decide +kernel
theorem dX8_row_11 : decode cX8_row 11 = .ok (.invokestatic 79, 3) := by decide +kernel
theorem dX8_row_14 : decode cX8_row 14 = .ok (.ifCond .eq 15, 3) := by decide +kernel
theorem dX8_row_17 : decode cX8_row 17 = .ok (.iload_n 1, 1) := by decide +kernel
theorem dX8_row_18 : decode cX8_row 18 = .ok (.aload_n 0, 1) := by decide +kernel
theorem dX8_row_19 : decode cX8_row 19 = .ok (.getfield 33, 3) := by decide +kernel
theorem dX8_row_22 : decode cX8_row 22 = .ok (.getfield 349, 3) := by decide +kernel
theorem dX8_row_25 : decode cX8_row 25 = .ok (.arraylength, 1) := by decide +kernel
theorem dX8_row_26 : decode cX8_row 26 = .ok (.if_icmp .lt 11, 3) := by decide +kernel
theorem dX8_row_29 : decode cX8_row 29 = .ok (.new 235, 3) := by decide +kernel
theorem dX8_row_32 : decode cX8_row 32 = .ok (.dup, 1) := by decide +kernel
theorem dX8_row_33 : decode cX8_row 33 = .ok (.invokespecial 237, 3) := by decide +kernel
theorem dX8_row_36 : decode cX8_row 36 = .ok (.athrow, 1) := by decide +kernel
theorem dX8_row_37 : decode cX8_row 37 = .ok (.aload_n 0, 1) := by decide +kernel
theorem dX8_row_38 : decode cX8_row 38 = .ok (.getfield 33, 3) := by decide +kernel
theorem dX8_row_41 : decode cX8_row 41 = .ok (.getfield 349, 3) := by decide +kernel
theorem dX8_row_44 : decode cX8_row 44 = .ok (.iload_n 1, 1) := by decide +kernel
theorem dX8_row_45 : decode cX8_row 45 = .ok (.laload, 1) := by decide +kernel
theorem dX8_row_46 : decode cX8_row 46 = .ok (.lreturn, 1) := by decide +kernel
theorem dX8_isWithin_0 : decode cX8_isWithin 0 = .ok (.iload_n 0, 1) := by decide +kernel
theorem dX8_isWithin_1 : decode cX8_isWithin 1 = .ok (.iload_n 1, 1) := by decide +kernel
theorem dX8_isWithin_2 : decode cX8_isWithin 2 = .ok (.if_icmp .lt 12, 3) := by decide +kernel
theorem dX8_isWithin_5 : decode cX8_isWithin 5 = .ok (.iload_n 0, 1) := by decide +kernel
theorem dX8_isWithin_6 : decode cX8_isWithin 6 = .ok (.iload_n 2, 1) := by decide +kernel
theorem dX8_isWithin_7 : decode cX8_isWithin 7 = .ok (.if_icmp .gt 7, 3) := by decide +kernel
theorem dX8_isWithin_10 : decode cX8_isWithin 10 = .ok (.iconst 1, 1) := by decide +kernel
theorem dX8_isWithin_11 : decode cX8_isWithin 11 = .ok (.goto 4, 3) := by decide +kernel
theorem dX8_isWithin_14 : decode cX8_isWithin 14 = .ok (.iconst 0, 1) := by decide +kernel
theorem dX8_isWithin_15 : decode cX8_isWithin 15 = .ok (.ireturn, 1) := by decide +kernel
theorem dX8_isGroup_0 : decode cX8_isGroup 0 = .ok (.iload_n 0, 1) := by decide +kernel
theorem dX8_isGroup_1 : decode cX8_isGroup 1 = .ok (.iconst 0, 1) := by decide +kernel
theorem dX8_isGroup_2 : decode cX8_isGroup 2 = .ok (.bipush 7, 2) := by decide +kernel
theorem dX8_isGroup_4 : decode cX8_isGroup 4 = .ok (.invokestatic 79, 3) := by decide +kernel
theorem dX8_isGroup_7 : decode cX8_isGroup 7 = .ok (.ireturn, 1) := by decide +kernel
theorem dX8_isMultiple_0 : decode cX8_isMultiple 0 = .ok (.iload_n 1, 1) := by decide +kernel
theorem dX8_isMultiple_1 : decode cX8_isMultiple 1 = .ok (.ifCond .le 13, 3) := by decide +kernel
theorem dX8_isMultiple_4 : decode cX8_isMultiple 4 = .ok (.iload_n 0, 1) := by decide +kernel
theorem dX8_isMultiple_5 : decode cX8_isMultiple 5 = .ok (.iload_n 1, 1) := by decide +kernel
theorem dX8_isMultiple_6 : decode cX8_isMultiple 6 = .ok (.irem, 1) := by decide +kernel
theorem dX8_isMultiple_7 : decode cX8_isMultiple 7 = .ok (.ifCond .ne 7, 3) := by decide +kernel
theorem dX8_isMultiple_10 : decode cX8_isMultiple 10 = .ok (.iconst 1, 1) := by decide +kernel
theorem dX8_isMultiple_11 : decode cX8_isMultiple 11 = .ok (.goto 4, 3) := by decide +kernel
theorem dX8_isMultiple_14 : decode cX8_isMultiple 14 = .ok (.iconst 0, 1) := by decide +kernel
theorem dX8_isMultiple_15 : decode cX8_isMultiple 15 = .ok (.ireturn, 1) := by decide +kernel
theorem dX8_numberOf_0 : decode cX8_numberOf 0 = .ok (.aload_n 0, 1) := by decide +kernel
theorem dX8_numberOf_1 : decode cX8_numberOf 1 = .ok (.ifnonnull 7, 3) := by decide +kernel
theorem dX8_numberOf_4 : decode cX8_numberOf 4 = .ok (.iconst (-1), 1) := by decide +kernel
theorem dX8_numberOf_5 : decode cX8_numberOf 5 = .ok (.goto 7, 3) := by decide +kernel
theorem dX8_numberOf_8 : decode cX8_numberOf 8 = .ok (.aload_n 0, 1) := by decide +kernel
theorem dX8_numberOf_9 : decode cX8_numberOf 9 = .ok (.getfield 151, 3) := by decide +kernel
theorem dX8_numberOf_12 : decode cX8_numberOf 12 = .ok (.ireturn, 1) := by decide +kernel
theorem dX8_refusalOfTicks_0 : decode cX8_refusalOfTicks 0 = .ok (.iload_n 1, 1) := by decide +kernel
theorem dX8_refusalOfTicks_1 : decode cX8_refusalOfTicks 1 = .ok (.iconst 1, 1) := by decide +kernel
theorem dX8_refusalOfTicks_2 : decode cX8_refusalOfTicks 2 = .ok (.bipush 100, 2) := by decide +kernel
theorem dX8_refusalOfTicks_4 : decode cX8_refusalOfTicks 4 = .ok (.invokestatic 79, 3) := by decide +kernel
theorem dX8_refusalOfTicks_7 : decode cX8_refusalOfTicks 7 = .ok (.ifCond .ne 5, 3) := by decide +kernel
theorem dX8_refusalOfTicks_10 : decode cX8_refusalOfTicks 10 = .ok (.iconst (-1), 1) := by decide +kernel
theorem dX8_refusalOfTicks_11 : decode cX8_refusalOfTicks 11 = .ok (.ireturn, 1) := by decide +kernel
theorem dX8_refusalOfTicks_12 : decode cX8_refusalOfTicks 12 = .ok (.aload_n 0, 1) := by decide +kernel
theorem dX8_refusalOfTicks_13 : decode cX8_refusalOfTicks 13 = .ok (.getfield 10, 3) := by decide +kernel
theorem dX8_refusalOfTicks_16 : decode cX8_refusalOfTicks 16 = .ok (.getfield 123, 3) := by decide +kernel
theorem dX8_refusalOfTicks_19 : decode cX8_refusalOfTicks 19 = .ok (.ldc_w 353, 3) := by decide +kernel
theorem dX8_refusalOfTicks_22 : decode cX8_refusalOfTicks 22 = .ok (.iload_n 1, 1) := by decide +kernel
theorem dX8_refusalOfTicks_23 : decode cX8_refusalOfTicks 23 = .ok (.isub, 1) := by decide +kernel
theorem dX8_refusalOfTicks_24 : decode cX8_refusalOfTicks 24 = .ok (.if_icmp .le 8, 3) := by decide +kernel
theorem dX8_refusalOfTicks_27 : decode cX8_refusalOfTicks 27 = .ok (.bipush (-4), 2) := by decide +kernel
theorem dX8_refusalOfTicks_29 : decode cX8_refusalOfTicks 29 = .ok (.goto 4, 3) := by decide +kernel
theorem dX8_refusalOfTicks_32 : decode cX8_refusalOfTicks 32 = .ok (.iconst 0, 1) := by decide +kernel
theorem dX8_refusalOfTicks_33 : decode cX8_refusalOfTicks 33 = .ok (.ireturn, 1) := by decide +kernel
theorem dX8_refusalOfLeap_0 : decode cX8_refusalOfLeap 0 = .ok (.iload_n 1, 1) := by decide +kernel
theorem dX8_refusalOfLeap_1 : decode cX8_refusalOfLeap 1 = .ok (.ifCond .eq 15, 3) := by decide +kernel
theorem dX8_refusalOfLeap_4 : decode cX8_refusalOfLeap 4 = .ok (.iload_n 1, 1) := by decide +kernel
theorem dX8_refusalOfLeap_5 : decode cX8_refusalOfLeap 5 = .ok (.ldc_w 354, 3) := by decide +kernel
theorem dX8_refusalOfLeap_8 : decode cX8_refusalOfLeap 8 = .ok (.ldc 114, 2) := by decide +kernel
theorem dX8_refusalOfLeap_10 : decode cX8_refusalOfLeap 10 = .ok (.invokestatic 79, 3) := by decide +kernel
theorem dX8_refusalOfLeap_13 : decode cX8_refusalOfLeap 13 = .ok (.ifCond .ne 5, 3) := by decide +kernel
theorem dX8_refusalOfLeap_16 : decode cX8_refusalOfLeap 16 = .ok (.iconst (-1), 1) := by decide +kernel
theorem dX8_refusalOfLeap_17 : decode cX8_refusalOfLeap 17 = .ok (.ireturn, 1) := by decide +kernel
theorem dX8_refusalOfLeap_18 : decode cX8_refusalOfLeap 18 = .ok (.aload_n 0, 1) := by decide +kernel
theorem dX8_refusalOfLeap_19 : decode cX8_refusalOfLeap 19 = .ok (.getfield 10, 3) := by decide +kernel
theorem dX8_refusalOfLeap_22 : decode cX8_refusalOfLeap 22 = .ok (.getfield 123, 3) := by decide +kernel
theorem dX8_refusalOfLeap_25 : decode cX8_refusalOfLeap 25 = .ok (.iload_n 1, 1) := by decide +kernel
theorem dX8_refusalOfLeap_26 : decode cX8_refusalOfLeap 26 = .ok (.iadd, 1) := by decide +kernel
theorem dX8_refusalOfLeap_27 : decode cX8_refusalOfLeap 27 = .ok (.iconst 0, 1) := by decide +kernel
theorem dX8_refusalOfLeap_28 : decode cX8_refusalOfLeap 28 = .ok (.ldc_w 353, 3) := by decide +kernel
theorem dX8_refusalOfLeap_31 : decode cX8_refusalOfLeap 31 = .ok (.invokestatic 79, 3) := by decide +kernel
theorem dX8_refusalOfLeap_34 : decode cX8_refusalOfLeap 34 = .ok (.ifCond .eq 7, 3) := by decide +kernel
theorem dX8_refusalOfLeap_37 : decode cX8_refusalOfLeap 37 = .ok (.iconst 0, 1) := by decide +kernel
theorem dX8_refusalOfLeap_38 : decode cX8_refusalOfLeap 38 = .ok (.goto 5, 3) := by decide +kernel
theorem dX8_refusalOfLeap_41 : decode cX8_refusalOfLeap 41 = .ok (.bipush (-4), 2) := by decide +kernel
theorem dX8_refusalOfLeap_43 : decode cX8_refusalOfLeap 43 = .ok (.ireturn, 1) := by decide +kernel
theorem dX8_keepWhatRang_0 : decode cX8_keepWhatRang 0 = .ok (.aload_n 0, 1) := by decide +kernel
theorem dX8_keepWhatRang_1 : decode cX8_keepWhatRang 1 = .ok (.getfield 10, 3) := by decide +kernel
theorem dX8_keepWhatRang_4 : decode cX8_keepWhatRang 4 = .ok (.getfield 189, 3) := by decide +kernel
theorem dX8_keepWhatRang_7 : decode cX8_keepWhatRang 7 = .ok (.astore_n 1, 1) := by decide +kernel
theorem dX8_keepWhatRang_8 : decode cX8_keepWhatRang 8 = .ok (.iconst 0, 1) := by decide +kernel
theorem dX8_keepWhatRang_9 : decode cX8_keepWhatRang 9 = .ok (.istore_n 2, 1) := by decide +kernel
theorem dX8_keepWhatRang_10 : decode cX8_keepWhatRang 10 = .ok (.iload_n 2, 1) := by decide +kernel
theorem dX8_keepWhatRang_11 : decode cX8_keepWhatRang 11 = .ok (.aload_n 1, 1) := by decide +kernel
theorem dX8_keepWhatRang_12 : decode cX8_keepWhatRang 12 = .ok (.getfield 202, 3) := by decide +kernel
theorem dX8_keepWhatRang_15 : decode cX8_keepWhatRang 15 = .ok (.if_icmp .ge 34, 3) := by decide +kernel
theorem dX8_keepWhatRang_18 : decode cX8_keepWhatRang 18 = .ok (.aload_n 1, 1) := by decide +kernel
theorem dX8_keepWhatRang_19 : decode cX8_keepWhatRang 19 = .ok (.iload_n 2, 1) := by decide +kernel
theorem dX8_keepWhatRang_20 : decode cX8_keepWhatRang 20 = .ok (.invokevirtual 297, 3) := by decide +kernel
theorem dX8_keepWhatRang_23 : decode cX8_keepWhatRang 23 = .ok (.astore_n 3, 1) := by decide +kernel
theorem dX8_keepWhatRang_24 : decode cX8_keepWhatRang 24 = .ok (.aload_n 3, 1) := by decide +kernel
theorem dX8_keepWhatRang_25 : decode cX8_keepWhatRang 25 = .ok (.ifnull 18, 3) := by decide +kernel
theorem dX8_keepWhatRang_28 : decode cX8_keepWhatRang 28 = .ok (.aload_n 0, 1) := by decide +kernel
theorem dX8_keepWhatRang_29 : decode cX8_keepWhatRang 29 = .ok (.getfield 40, 3) := by decide +kernel
theorem dX8_keepWhatRang_32 : decode cX8_keepWhatRang 32 = .ok (.aload_n 3, 1) := by decide +kernel
theorem dX8_keepWhatRang_33 : decode cX8_keepWhatRang 33 = .ok (.aload_n 0, 1) := by decide +kernel
theorem dX8_keepWhatRang_34 : decode cX8_keepWhatRang 34 = .ok (.getfield 10, 3) := by decide +kernel
theorem dX8_keepWhatRang_37 : decode cX8_keepWhatRang 37 = .ok (.getfield 123, 3) := by decide +kernel
theorem dX8_keepWhatRang_40 : decode cX8_keepWhatRang 40 = .ok (.invokevirtual 355, 3) := by decide +kernel
theorem dX8_keepWhatRang_43 : decode cX8_keepWhatRang 43 = .ok (.iinc 2 1, 3) := by decide +kernel
theorem dX8_keepWhatRang_46 : decode cX8_keepWhatRang 46 = .ok (.goto (-36), 3) := by decide +kernel
theorem dX8_keepWhatRang_49 : decode cX8_keepWhatRang 49 = .ok (.aload_n 1, 1) := by decide +kernel
theorem dX8_keepWhatRang_50 : decode cX8_keepWhatRang 50 = .ok (.getfield 202, 3) := by decide +kernel
theorem dX8_keepWhatRang_53 : decode cX8_keepWhatRang 53 = .ok (.ireturn, 1) := by decide +kernel
theorem dX8_tellLatest_0 : decode cX8_tellLatest 0 = .ok (.aload_n 0, 1) := by decide +kernel
theorem dX8_tellLatest_1 : decode cX8_tellLatest 1 = .ok (.getfield 33, 3) := by decide +kernel
theorem dX8_tellLatest_4 : decode cX8_tellLatest 4 = .ok (.invokevirtual 209, 3) := by decide +kernel
theorem dX8_tellLatest_7 : decode cX8_tellLatest 7 = .ok (.iload_n 1, 1) := by decide +kernel
theorem dX8_tellLatest_8 : decode cX8_tellLatest 8 = .ok (.bipush 20, 2) := by decide +kernel
theorem dX8_tellLatest_10 : decode cX8_tellLatest 10 = .ok (.invokestatic 359, 3) := by decide +kernel
theorem dX8_tellLatest_13 : decode cX8_tellLatest 13 = .ok (.istore_n 3, 1) := by decide +kernel
theorem dX8_tellLatest_14 : decode cX8_tellLatest 14 = .ok (.aload_n 0, 1) := by decide +kernel
theorem dX8_tellLatest_15 : decode cX8_tellLatest 15 = .ok (.getfield 40, 3) := by decide +kernel
theorem dX8_tellLatest_18 : decode cX8_tellLatest 18 = .ok (.getfield 346, 3) := by decide +kernel
theorem dX8_tellLatest_21 : decode cX8_tellLatest 21 = .ok (.iload_n 3, 1) := by decide +kernel
theorem dX8_tellLatest_22 : decode cX8_tellLatest 22 = .ok (.isub, 1) := by decide +kernel
theorem dX8_tellLatest_23 : decode cX8_tellLatest 23 = .ok (.istore 4, 2) := by decide +kernel
theorem dX8_tellLatest_25 : decode cX8_tellLatest 25 = .ok (.iload 4, 2) := by decide +kernel
theorem dX8_tellLatest_27 : decode cX8_tellLatest 27 = .ok (.aload_n 0, 1) := by decide +kernel
theorem dX8_tellLatest_28 : decode cX8_tellLatest 28 = .ok (.getfield 40, 3) := by decide +kernel
theorem dX8_tellLatest_31 : decode cX8_tellLatest 31 = .ok (.getfield 346, 3) := by decide +kernel
theorem dX8_tellLatest_34 : decode cX8_tellLatest 34 = .ok (.if_icmp .ge 79, 3) := by decide +kernel
theorem dX8_tellLatest_37 : decode cX8_tellLatest 37 = .ok (.aload_n 0, 1) := by decide +kernel
theorem dX8_tellLatest_38 : decode cX8_tellLatest 38 = .ok (.getfield 40, 3) := by decide +kernel
theorem dX8_tellLatest_41 : decode cX8_tellLatest 41 = .ok (.iload 4, 2) := by decide +kernel
theorem dX8_tellLatest_43 : decode cX8_tellLatest 43 = .ok (.invokevirtual 319, 3) := by decide +kernel
theorem dX8_tellLatest_46 : decode cX8_tellLatest 46 = .ok (.istore 5, 2) := by decide +kernel
theorem dX8_tellLatest_48 : decode cX8_tellLatest 48 = .ok (.iload 5, 2) := by decide +kernel
theorem dX8_tellLatest_50 : decode cX8_tellLatest 50 = .ok (.ifCond .lt 57, 3) := by decide +kernel
theorem dX8_tellLatest_53 : decode cX8_tellLatest 53 = .ok (.aload_n 0, 1) := by decide +kernel
theorem dX8_tellLatest_54 : decode cX8_tellLatest 54 = .ok (.getfield 33, 3) := by decide +kernel
theorem dX8_tellLatest_57 : decode cX8_tellLatest 57 = .ok (.aload_n 0, 1) := by decide +kernel
theorem dX8_tellLatest_58 : decode cX8_tellLatest 58 = .ok (.getfield 40, 3) := by decide +kernel
theorem dX8_tellLatest_61 : decode cX8_tellLatest 61 = .ok (.getfield 334, 3) := by decide +kernel
theorem dX8_tellLatest_64 : decode cX8_tellLatest 64 = .ok (.iload 5, 2) := by decide +kernel
theorem dX8_tellLatest_66 : decode cX8_tellLatest 66 = .ok (.iaload, 1) := by decide +kernel
theorem dX8_tellLatest_67 : decode cX8_tellLatest 67 = .ok (.i2l, 1) := by decide +kernel
theorem dX8_tellLatest_68 : decode cX8_tellLatest 68 = .ok (.invokevirtual 210, 3) := by decide +kernel
theorem dX8_tellLatest_71 : decode cX8_tellLatest 71 = .ok (.aload_n 0, 1) := by decide +kernel
theorem dX8_tellLatest_72 : decode cX8_tellLatest 72 = .ok (.getfield 33, 3) := by decide +kernel
theorem dX8_tellLatest_75 : decode cX8_tellLatest 75 = .ok (.iload_n 2, 1) := by decide +kernel
theorem dX8_tellLatest_76 : decode cX8_tellLatest 76 = .ok (.ifCond .eq 17, 3) := by decide +kernel
theorem dX8_tellLatest_79 : decode cX8_tellLatest 79 = .ok (.aload_n 0, 1) := by decide +kernel
theorem dX8_tellLatest_80 : decode cX8_tellLatest 80 = .ok (.getfield 40, 3) := by decide +kernel
theorem dX8_tellLatest_83 : decode cX8_tellLatest 83 = .ok (.getfield 325, 3) := by decide +kernel
theorem dX8_tellLatest_86 : decode cX8_tellLatest 86 = .ok (.iload 5, 2) := by decide +kernel
theorem dX8_tellLatest_88 : decode cX8_tellLatest 88 = .ok (.iaload, 1) := by decide +kernel
theorem dX8_tellLatest_89 : decode cX8_tellLatest 89 = .ok (.i2l, 1) := by decide +kernel
theorem dX8_tellLatest_90 : decode cX8_tellLatest 90 = .ok (.goto 14, 3) := by decide +kernel
theorem dX8_tellLatest_93 : decode cX8_tellLatest 93 = .ok (.aload_n 0, 1) := by decide +kernel
theorem dX8_tellLatest_94 : decode cX8_tellLatest 94 = .ok (.getfield 40, 3) := by decide +kernel
theorem dX8_tellLatest_97 : decode cX8_tellLatest 97 = .ok (.getfield 322, 3) := by decide +kernel
theorem dX8_tellLatest_100 : decode cX8_tellLatest 100 = .ok (.iload 5, 2) := by decide +kernel
theorem dX8_tellLatest_102 : decode cX8_tellLatest 102 = .ok (.iaload, 1) := by decide +kernel
theorem dX8_tellLatest_103 : decode cX8_tellLatest 103 = .ok (.i2l, 1) := by decide +kernel
theorem dX8_tellLatest_104 : decode cX8_tellLatest 104 = .ok (.invokevirtual 210, 3) := by decide +kernel
theorem dX8_tellLatest_107 : decode cX8_tellLatest 107 = .ok (.iinc 4 1, 3) := by decide +kernel
theorem dX8_tellLatest_110 : decode cX8_tellLatest 110 = .ok (.goto (-85), 3) := by decide +kernel
theorem dX8_tellLatest_113 : decode cX8_tellLatest 113 = .ok (.return_, 1) := by decide +kernel
theorem dX8_tellLine_0 : decode cX8_tellLine 0 = .ok (.aload_n 0, 1) := by decide +kernel
theorem dX8_tellLine_1 : decode cX8_tellLine 1 = .ok (.getfield 33, 3) := by decide +kernel
theorem dX8_tellLine_4 : decode cX8_tellLine 4 = .ok (.invokevirtual 209, 3) := by decide +kernel
theorem dX8_tellLine_7 : decode cX8_tellLine 7 = .ok (.iconst 0, 1) := by decide +kernel
theorem dX8_tellLine_8 : decode cX8_tellLine 8 = .ok (.istore_n 2, 1) := by decide +kernel
theorem dX8_tellLine_9 : decode cX8_tellLine 9 = .ok (.iload_n 2, 1) := by decide +kernel
theorem dX8_tellLine_10 : decode cX8_tellLine 10 = .ok (.aload_n 1, 1) := by decide +kernel
theorem dX8_tellLine_11 : decode cX8_tellLine 11 = .ok (.getfield 202, 3) := by decide +kernel
theorem dX8_tellLine_14 : decode cX8_tellLine 14 = .ok (.if_icmp .ge 25, 3) := by decide +kernel
theorem dX8_tellLine_17 : decode cX8_tellLine 17 = .ok (.aload_n 0, 1) := by decide +kernel
theorem dX8_tellLine_18 : decode cX8_tellLine 18 = .ok (.getfield 33, 3) := by decide +kernel
theorem dX8_tellLine_21 : decode cX8_tellLine 21 = .ok (.aload_n 1, 1) := by decide +kernel
theorem dX8_tellLine_22 : decode cX8_tellLine 22 = .ok (.iload_n 2, 1) := by decide +kernel
theorem dX8_tellLine_23 : decode cX8_tellLine 23 = .ok (.invokevirtual 297, 3) := by decide +kernel
theorem dX8_tellLine_26 : decode cX8_tellLine 26 = .ok (.invokestatic 315, 3) := by decide +kernel
theorem dX8_tellLine_29 : decode cX8_tellLine 29 = .ok (.i2l, 1) := by decide +kernel
theorem dX8_tellLine_30 : decode cX8_tellLine 30 = .ok (.invokevirtual 210, 3) := by decide +kernel
theorem dX8_tellLine_33 : decode cX8_tellLine 33 = .ok (.iinc 2 1, 3) := by decide +kernel
theorem dX8_tellLine_36 : decode cX8_tellLine 36 = .ok (.goto (-27), 3) := by decide +kernel
theorem dX8_tellLine_39 : decode cX8_tellLine 39 = .ok (.return_, 1) := by decide +kernel
theorem dX8_tellWhatRings_0 : decode cX8_tellWhatRings 0 = .ok (.iconst 0, 1) := by decide +kernel
theorem dX8_tellWhatRings_1 : decode cX8_tellWhatRings 1 = .ok (.istore_n 2, 1) := by decide +kernel
theorem dX8_tellWhatRings_2 : decode cX8_tellWhatRings 2 = .ok (.iload_n 2, 1) := by decide +kernel
theorem dX8_tellWhatRings_3 : decode cX8_tellWhatRings 3 = .ok (.aload_n 0, 1) := by decide +kernel
theorem dX8_tellWhatRings_4 : decode cX8_tellWhatRings 4 = .ok (.getfield 16, 3) := by decide +kernel
theorem dX8_tellWhatRings_7 : decode cX8_tellWhatRings 7 = .ok (.getfield 189, 3) := by decide +kernel
theorem dX8_tellWhatRings_10 : decode cX8_tellWhatRings 10 = .ok (.getfield 202, 3) := by decide +kernel
theorem dX8_tellWhatRings_13 : decode cX8_tellWhatRings 13 = .ok (.if_icmp .ge 51, 3) := by decide +kernel
theorem dX8_tellWhatRings_16 : decode cX8_tellWhatRings 16 = .ok (.iload_n 2, 1) := by decide +kernel
theorem dX8_tellWhatRings_17 : decode cX8_tellWhatRings 17 = .ok (.iload_n 1, 1) := by decide +kernel
theorem dX8_tellWhatRings_18 : decode cX8_tellWhatRings 18 = .ok (.if_icmp .ge 46, 3) := by decide +kernel
theorem dX8_tellWhatRings_21 : decode cX8_tellWhatRings 21 = .ok (.aload_n 0, 1) := by decide +kernel
theorem dX8_tellWhatRings_22 : decode cX8_tellWhatRings 22 = .ok (.getfield 33, 3) := by decide +kernel
theorem dX8_tellWhatRings_25 : decode cX8_tellWhatRings 25 = .ok (.aload_n 0, 1) := by decide +kernel
theorem dX8_tellWhatRings_26 : decode cX8_tellWhatRings 26 = .ok (.getfield 16, 3) := by decide +kernel
theorem dX8_tellWhatRings_29 : decode cX8_tellWhatRings 29 = .ok (.getfield 189, 3) := by decide +kernel
theorem dX8_tellWhatRings_32 : decode cX8_tellWhatRings 32 = .ok (.iload_n 2, 1) := by decide +kernel
theorem dX8_tellWhatRings_33 : decode cX8_tellWhatRings 33 = .ok (.invokevirtual 297, 3) := by decide +kernel
theorem dX8_tellWhatRings_36 : decode cX8_tellWhatRings 36 = .ok (.invokestatic 315, 3) := by decide +kernel
theorem dX8_tellWhatRings_39 : decode cX8_tellWhatRings 39 = .ok (.i2l, 1) := by decide +kernel
theorem dX8_tellWhatRings_40 : decode cX8_tellWhatRings 40 = .ok (.invokevirtual 210, 3) := by decide +kernel
theorem dX8_tellWhatRings_43 : decode cX8_tellWhatRings 43 = .ok (.aload_n 0, 1) := by decide +kernel
theorem dX8_tellWhatRings_44 : decode cX8_tellWhatRings 44 = .ok (.getfield 33, 3) := by decide +kernel
theorem dX8_tellWhatRings_47 : decode cX8_tellWhatRings 47 = .ok (.aload_n 0, 1) := by decide +kernel
theorem dX8_tellWhatRings_48 : decode cX8_tellWhatRings 48 = .ok (.getfield 16, 3) := by decide +kernel
theorem dX8_tellWhatRings_51 : decode cX8_tellWhatRings 51 = .ok (.getfield 123, 3) := by decide +kernel
theorem dX8_tellWhatRings_54 : decode cX8_tellWhatRings 54 = .ok (.i2l, 1) := by decide +kernel
theorem dX8_tellWhatRings_55 : decode cX8_tellWhatRings 55 = .ok (.invokevirtual 210, 3) := by decide +kernel
theorem dX8_tellWhatRings_58 : decode cX8_tellWhatRings 58 = .ok (.iinc 2 1, 3) := by decide +kernel
theorem dX8_tellWhatRings_61 : decode cX8_tellWhatRings 61 = .ok (.goto (-59), 3) := by decide +kernel
theorem dX8_tellWhatRings_64 : decode cX8_tellWhatRings 64 = .ok (.return_, 1) := by decide +kernel
theorem dX8_putApart_0 : decode cX8_putApart 0 = .ok (.iconst 0, 1) := by decide +kernel
theorem dX8_putApart_1 : decode cX8_putApart 1 = .ok (.istore_n 3, 1) := by decide +kernel
theorem dX8_putApart_2 : decode cX8_putApart 2 = .ok (.iconst 0, 1) := by decide +kernel
theorem dX8_putApart_3 : decode cX8_putApart 3 = .ok (.istore 4, 2) := by decide +kernel
theorem dX8_putApart_5 : decode cX8_putApart 5 = .ok (.iconst 0, 1) := by decide +kernel
theorem dX8_putApart_6 : decode cX8_putApart 6 = .ok (.istore 5, 2) := by decide +kernel
theorem dX8_putApart_8 : decode cX8_putApart 8 = .ok (.iload 5, 2) := by decide +kernel
theorem dX8_putApart_10 : decode cX8_putApart 10 = .ok (.aload_n 1, 1) := by decide +kernel
theorem dX8_putApart_11 : decode cX8_putApart 11 = .ok (.getfield 202, 3) := by decide +kernel
theorem dX8_putApart_14 : decode cX8_putApart 14 = .ok (.if_icmp .ge 75, 3) := by decide +kernel
theorem dX8_putApart_17 : decode cX8_putApart 17 = .ok (.aload_n 1, 1) := by decide +kernel
theorem dX8_putApart_18 : decode cX8_putApart 18 = .ok (.iload 5, 2) := by decide +kernel
theorem dX8_putApart_20 : decode cX8_putApart 20 = .ok (.invokevirtual 297, 3) := by decide +kernel
theorem dX8_putApart_23 : decode cX8_putApart 23 = .ok (.astore 6, 2) := by decide +kernel
theorem dX8_putApart_25 : decode cX8_putApart 25 = .ok (.aload 6, 2) := by decide +kernel
theorem dX8_putApart_27 : decode cX8_putApart 27 = .ok (.ifnull 56, 3) := by decide +kernel
theorem dX8_putApart_30 : decode cX8_putApart 30 = .ok (.iload 5, 2) := by decide +kernel
theorem dX8_putApart_32 : decode cX8_putApart 32 = .ok (.ifCond .ne 11, 3) := by decide +kernel
theorem dX8_putApart_35 : decode cX8_putApart 35 = .ok (.aload 6, 2) := by decide +kernel
theorem dX8_putApart_37 : decode cX8_putApart 37 = .ok (.getfield 183, 3) := by decide +kernel
theorem dX8_putApart_40 : decode cX8_putApart 40 = .ok (.goto 7, 3) := by decide +kernel
theorem dX8_putApart_43 : decode cX8_putApart 43 = .ok (.iload 4, 2) := by decide +kernel
theorem dX8_putApart_45 : decode cX8_putApart 45 = .ok (.iload_n 2, 1) := by decide +kernel
theorem dX8_putApart_46 : decode cX8_putApart 46 = .ok (.iadd, 1) := by decide +kernel
theorem dX8_putApart_47 : decode cX8_putApart 47 = .ok (.istore 4, 2) := by decide +kernel
theorem dX8_putApart_49 : decode cX8_putApart 49 = .ok (.iload_n 3, 1) := by decide +kernel
theorem dX8_putApart_50 : decode cX8_putApart 50 = .ok (.aload 6, 2) := by decide +kernel
theorem dX8_putApart_52 : decode cX8_putApart 52 = .ok (.getfield 183, 3) := by decide +kernel
theorem dX8_putApart_55 : decode cX8_putApart 55 = .ok (.iload 4, 2) := by decide +kernel
theorem dX8_putApart_57 : decode cX8_putApart 57 = .ok (.if_icmp .ne 7, 3) := by decide +kernel
theorem dX8_putApart_60 : decode cX8_putApart 60 = .ok (.iconst 0, 1) := by decide +kernel
theorem dX8_putApart_61 : decode cX8_putApart 61 = .ok (.goto 4, 3) := by decide +kernel
theorem dX8_putApart_64 : decode cX8_putApart 64 = .ok (.iconst 1, 1) := by decide +kernel
theorem dX8_putApart_65 : decode cX8_putApart 65 = .ok (.iadd, 1) := by decide +kernel
theorem dX8_putApart_66 : decode cX8_putApart 66 = .ok (.istore_n 3, 1) := by decide +kernel
theorem dX8_putApart_67 : decode cX8_putApart 67 = .ok (.aload 6, 2) := by decide +kernel
theorem dX8_putApart_69 : decode cX8_putApart 69 = .ok (.iload 4, 2) := by decide +kernel
theorem dX8_putApart_71 : decode cX8_putApart 71 = .ok (.putfield 183, 3) := by decide +kernel
theorem dX8_putApart_74 : decode cX8_putApart 74 = .ok (.aload_n 0, 1) := by decide +kernel
theorem dX8_putApart_75 : decode cX8_putApart 75 = .ok (.getfield 10, 3) := by decide +kernel
theorem dX8_putApart_78 : decode cX8_putApart 78 = .ok (.aload 6, 2) := by decide +kernel
theorem dX8_putApart_80 : decode cX8_putApart 80 = .ok (.invokevirtual 147, 3) := by decide +kernel
theorem dX8_putApart_83 : decode cX8_putApart 83 = .ok (.iinc 5 1, 3) := by decide +kernel
theorem dX8_putApart_86 : decode cX8_putApart 86 = .ok (.goto (-78), 3) := by decide +kernel
theorem dX8_putApart_89 : decode cX8_putApart 89 = .ok (.aload_n 0, 1) := by decide +kernel
theorem dX8_putApart_90 : decode cX8_putApart 90 = .ok (.getfield 33, 3) := by decide +kernel
theorem dX8_putApart_93 : decode cX8_putApart 93 = .ok (.invokevirtual 209, 3) := by decide +kernel
theorem dX8_putApart_96 : decode cX8_putApart 96 = .ok (.aload_n 0, 1) := by decide +kernel
theorem dX8_putApart_97 : decode cX8_putApart 97 = .ok (.getfield 33, 3) := by decide +kernel
theorem dX8_putApart_100 : decode cX8_putApart 100 = .ok (.iload 4, 2) := by decide +kernel
theorem dX8_putApart_102 : decode cX8_putApart 102 = .ok (.i2l, 1) := by decide +kernel
theorem dX8_putApart_103 : decode cX8_putApart 103 = .ok (.invokevirtual 210, 3) := by decide +kernel
theorem dX8_putApart_106 : decode cX8_putApart 106 = .ok (.iload_n 3, 1) := by decide +kernel
theorem dX8_putApart_107 : decode cX8_putApart 107 = .ok (.ireturn, 1) := by decide +kernel
theorem dX8_movesBy_0 : decode cX8_movesBy 0 = .ok (.iconst 0, 1) := by decide +kernel
theorem dX8_movesBy_1 : decode cX8_movesBy 1 = .ok (.istore_n 2, 1) := by decide +kernel
theorem dX8_movesBy_2 : decode cX8_movesBy 2 = .ok (.iconst 0, 1) := by decide +kernel
theorem dX8_movesBy_3 : decode cX8_movesBy 3 = .ok (.istore_n 3, 1) := by decide +kernel
theorem dX8_movesBy_4 : decode cX8_movesBy 4 = .ok (.iload_n 3, 1) := by decide +kernel
theorem dX8_movesBy_5 : decode cX8_movesBy 5 = .ok (.bipush 16, 2) := by decide +kernel
theorem dX8_movesBy_7 : decode cX8_movesBy 7 = .ok (.if_icmp .ge 53, 3) := by decide +kernel
theorem dX8_movesBy_10 : decode cX8_movesBy 10 = .ok (.aload_n 0, 1) := by decide +kernel
theorem dX8_movesBy_11 : decode cX8_movesBy 11 = .ok (.getfield 10, 3) := by decide +kernel
theorem dX8_movesBy_14 : decode cX8_movesBy 14 = .ok (.iload_n 3, 1) := by decide +kernel
theorem dX8_movesBy_15 : decode cX8_movesBy 15 = .ok (.invokevirtual 186, 3) := by decide +kernel
theorem dX8_movesBy_18 : decode cX8_movesBy 18 = .ok (.astore 4, 2) := by decide +kernel
theorem dX8_movesBy_20 : decode cX8_movesBy 20 = .ok (.aload 4, 2) := by decide +kernel
theorem dX8_movesBy_22 : decode cX8_movesBy 22 = .ok (.ifnull 32, 3) := by decide +kernel
theorem dX8_movesBy_25 : decode cX8_movesBy 25 = .ok (.iload_n 2, 1) := by decide +kernel
theorem dX8_movesBy_26 : decode cX8_movesBy 26 = .ok (.aload_n 1, 1) := by decide +kernel
theorem dX8_movesBy_27 : decode cX8_movesBy 27 = .ok (.aload_n 1, 1) := by decide +kernel
theorem dX8_movesBy_28 : decode cX8_movesBy 28 = .ok (.aload 4, 2) := by decide +kernel
theorem dX8_movesBy_30 : decode cX8_movesBy 30 = .ok (.getfield 183, 3) := by decide +kernel
theorem dX8_movesBy_33 : decode cX8_movesBy 33 = .ok (.aload_n 0, 1) := by decide +kernel
theorem dX8_movesBy_34 : decode cX8_movesBy 34 = .ok (.getfield 10, 3) := by decide +kernel
theorem dX8_movesBy_37 : decode cX8_movesBy 37 = .ok (.getfield 123, 3) := by decide +kernel
theorem dX8_movesBy_40 : decode cX8_movesBy 40 = .ok (.isub, 1) := by decide +kernel
theorem dX8_movesBy_41 : decode cX8_movesBy 41 = .ok (.invokevirtual 278, 3) := by decide +kernel
theorem dX8_movesBy_44 : decode cX8_movesBy 44 = .ok (.aload 4, 2) := by decide +kernel
theorem dX8_movesBy_46 : decode cX8_movesBy 46 = .ok (.getfield 183, 3) := by decide +kernel
theorem dX8_movesBy_49 : decode cX8_movesBy 49 = .ok (.invokevirtual 275, 3) := by decide +kernel
theorem dX8_movesBy_52 : decode cX8_movesBy 52 = .ok (.iadd, 1) := by decide +kernel
theorem dX8_movesBy_53 : decode cX8_movesBy 53 = .ok (.istore_n 2, 1) := by decide +kernel
theorem dX8_movesBy_54 : decode cX8_movesBy 54 = .ok (.iinc 3 1, 3) := by decide +kernel
theorem dX8_movesBy_57 : decode cX8_movesBy 57 = .ok (.goto (-53), 3) := by decide +kernel
theorem dX8_movesBy_60 : decode cX8_movesBy 60 = .ok (.iload_n 2, 1) := by decide +kernel
theorem dX8_movesBy_61 : decode cX8_movesBy 61 = .ok (.ireturn, 1) := by decide +kernel
theorem dX8_countGroups_0 : decode cX8_countGroups 0 = .ok (.iconst 0, 1) := by decide +kernel
theorem dX8_countGroups_1 : decode cX8_countGroups 1 = .ok (.istore_n 2, 1) := by decide +kernel
theorem dX8_countGroups_2 : decode cX8_countGroups 2 = .ok (.iload_n 2, 1) := by decide +kernel
theorem dX8_countGroups_3 : decode cX8_countGroups 3 = .ok (.aload_n 0, 1) := by decide +kernel
theorem dX8_countGroups_4 : decode cX8_countGroups 4 = .ok (.getfield 202, 3) := by decide +kernel
theorem dX8_countGroups_7 : decode cX8_countGroups 7 = .ok (.if_icmp .ge 45, 3) := by decide +kernel
theorem dX8_countGroups_10 : decode cX8_countGroups 10 = .ok (.aload_n 0, 1) := by decide +kernel
theorem dX8_countGroups_11 : decode cX8_countGroups 11 = .ok (.iload_n 2, 1) := by decide +kernel
theorem dX8_countGroups_12 : decode cX8_countGroups 12 = .ok (.invokevirtual 297, 3) := by decide +kernel
theorem dX8_countGroups_15 : decode cX8_countGroups 15 = .ok (.astore_n 3, 1) := by decide +kernel
theorem dX8_countGroups_16 : decode cX8_countGroups 16 = .ok (.aload_n 3, 1) := by decide +kernel
theorem dX8_countGroups_17 : decode cX8_countGroups 17 = .ok (.ifnull 29, 3) := by decide +kernel
theorem dX8_countGroups_20 : decode cX8_countGroups 20 = .ok (.aload_n 3, 1) := by decide +kernel
theorem dX8_countGroups_21 : decode cX8_countGroups 21 = .ok (.getfield 135, 3) := by decide +kernel
theorem dX8_countGroups_24 : decode cX8_countGroups 24 = .ok (.ifCond .lt 22, 3) := by decide +kernel
theorem dX8_countGroups_27 : decode cX8_countGroups 27 = .ok (.aload_n 3, 1) := by decide +kernel
theorem dX8_countGroups_28 : decode cX8_countGroups 28 = .ok (.getfield 135, 3) := by decide +kernel
theorem dX8_countGroups_31 : decode cX8_countGroups 31 = .ok (.aload_n 1, 1) := by decide +kernel
theorem dX8_countGroups_32 : decode cX8_countGroups 32 = .ok (.arraylength, 1) := by decide +kernel
theorem dX8_countGroups_33 : decode cX8_countGroups 33 = .ok (.if_icmp .ge 13, 3) := by decide +kernel
theorem dX8_countGroups_36 : decode cX8_countGroups 36 = .ok (.aload_n 1, 1) := by decide +kernel
theorem dX8_countGroups_37 : decode cX8_countGroups 37 = .ok (.aload_n 3, 1) := by decide +kernel
theorem dX8_countGroups_38 : decode cX8_countGroups 38 = .ok (.getfield 135, 3) := by decide +kernel
theorem dX8_countGroups_41 : decode cX8_countGroups 41 = .ok (.dup2, 1) := by decide +kernel
theorem dX8_countGroups_42 : decode cX8_countGroups 42 = .ok (.iaload, 1) := by decide +kernel
theorem dX8_countGroups_43 : decode cX8_countGroups 43 = .ok (.iconst 1, 1) := by decide +kernel
theorem dX8_countGroups_44 : decode cX8_countGroups 44 = .ok (.iadd, 1) := by decide +kernel
theorem dX8_countGroups_45 : decode cX8_countGroups 45 = .ok (.iastore, 1) := by decide +kernel
theorem dX8_countGroups_46 : decode cX8_countGroups 46 = .ok (.iinc 2 1, 3) := by decide +kernel
theorem dX8_countGroups_49 : decode cX8_countGroups 49 = .ok (.goto (-47), 3) := by decide +kernel
theorem dX8_countGroups_52 : decode cX8_countGroups 52 = .ok (.return_, 1) := by decide +kernel
theorem dX8_does_0 : decode cX8_does 0 = .ok (.iload_n 1, 1) := by decide +kernel
theorem dX8_does_1 : decode cX8_does 1 = .ok (.ifCond .lt 9, 3) := by decide +kernel
theorem dX8_does_4 : decode cX8_does 4 = .ok (.iload_n 1, 1) := by decide +kernel
theorem dX8_does_5 : decode cX8_does 5 = .ok (.bipush 34, 2) := by decide +kernel
theorem dX8_does_7 : decode cX8_does 7 = .ok (.if_icmp .lt 5, 3) := by decide +kernel
theorem dX8_does_10 : decode cX8_does 10 = .ok (.iconst 0, 1) := by decide +kernel
theorem dX8_does_11 : decode cX8_does 11 = .ok (.ireturn, 1) := by decide +kernel
theorem dX8_does_12 : decode cX8_does 12 = .ok (.aload_n 0, 1) := by decide +kernel
theorem dX8_does_13 : decode cX8_does 13 = .ok (.getfield 54, 3) := by decide +kernel
theorem dX8_does_16 : decode cX8_does 16 = .ok (.getfield 362, 3) := by decide +kernel
theorem dX8_does_19 : decode cX8_does 19 = .ok (.iload_n 1, 1) := by decide +kernel
theorem dX8_does_20 : decode cX8_does 20 = .ok (.iaload, 1) := by decide +kernel
theorem dX8_does_21 : decode cX8_does 21 = .ok (.istore_n 2, 1) := by decide +kernel
theorem dX8_does_22 : decode cX8_does 22 = .ok (.aload_n 0, 1) := by decide +kernel
theorem dX8_does_23 : decode cX8_does 23 = .ok (.getfield 54, 3) := by decide +kernel
theorem dX8_does_26 : decode cX8_does 26 = .ok (.getfield 364, 3) := by decide +kernel
theorem dX8_does_29 : decode cX8_does 29 = .ok (.iload_n 1, 1) := by decide +kernel
theorem dX8_does_30 : decode cX8_does 30 = .ok (.iaload, 1) := by decide +kernel
theorem dX8_does_31 : decode cX8_does 31 = .ok (.lookupswitch 117 #[(99, 103), (108, 89), (115, 41), (116, 75)], 41) := by decide +kernel
theorem dX8_does_72 : decode cX8_does 72 = .ok (.aload_n 0, 1) := by decide +kernel
theorem dX8_does_73 : decode cX8_does 73 = .ok (.iload_n 2, 1) := by decide +kernel
theorem dX8_does_74 : decode cX8_does 74 = .ok (.iconst 0, 1) := by decide +kernel
theorem dX8_does_75 : decode cX8_does 75 = .ok (.aload_n 0, 1) := by decide +kernel
theorem dX8_does_76 : decode cX8_does 76 = .ok (.getfield 54, 3) := by decide +kernel
theorem dX8_does_79 : decode cX8_does 79 = .ok (.getfield 367, 3) := by decide +kernel
theorem dX8_does_82 : decode cX8_does 82 = .ok (.iload_n 1, 1) := by decide +kernel
theorem dX8_does_83 : decode cX8_does 83 = .ok (.iaload, 1) := by decide +kernel
theorem dX8_does_84 : decode cX8_does 84 = .ok (.aload_n 0, 1) := by decide +kernel
theorem dX8_does_85 : decode cX8_does 85 = .ok (.getfield 54, 3) := by decide +kernel
theorem dX8_does_88 : decode cX8_does 88 = .ok (.getfield 370, 3) := by decide +kernel
theorem dX8_does_91 : decode cX8_does 91 = .ok (.iload_n 1, 1) := by decide +kernel
theorem dX8_does_92 : decode cX8_does 92 = .ok (.iaload, 1) := by decide +kernel
theorem dX8_does_93 : decode cX8_does 93 = .ok (.iconst 0, 1) := by decide +kernel
theorem dX8_does_94 : decode cX8_does 94 = .ok (.invokevirtual 373, 3) := by decide +kernel
theorem dX8_does_97 : decode cX8_does 97 = .ok (.ifCond .lt 7, 3) := by decide +kernel
theorem dX8_does_100 : decode cX8_does 100 = .ok (.iconst 1, 1) := by decide +kernel
theorem dX8_does_101 : decode cX8_does 101 = .ok (.goto 4, 3) := by decide +kernel
theorem dX8_does_104 : decode cX8_does 104 = .ok (.iconst 0, 1) := by decide +kernel
theorem dX8_does_105 : decode cX8_does 105 = .ok (.ireturn, 1) := by decide +kernel
theorem dX8_does_106 : decode cX8_does 106 = .ok (.aload_n 0, 1) := by decide +kernel
theorem dX8_does_107 : decode cX8_does 107 = .ok (.iload_n 2, 1) := by decide +kernel
theorem dX8_does_108 : decode cX8_does 108 = .ok (.invokevirtual 377, 3) := by decide +kernel
theorem dX8_does_111 : decode cX8_does 111 = .ok (.ifCond .lt 7, 3) := by decide +kernel
theorem dX8_does_114 : decode cX8_does 114 = .ok (.iconst 1, 1) := by decide +kernel
theorem dX8_does_115 : decode cX8_does 115 = .ok (.goto 4, 3) := by decide +kernel
theorem dX8_does_118 : decode cX8_does 118 = .ok (.iconst 0, 1) := by decide +kernel
theorem dX8_does_119 : decode cX8_does 119 = .ok (.ireturn, 1) := by decide +kernel
theorem dX8_does_120 : decode cX8_does 120 = .ok (.aload_n 0, 1) := by decide +kernel
theorem dX8_does_121 : decode cX8_does 121 = .ok (.iload_n 2, 1) := by decide +kernel
theorem dX8_does_122 : decode cX8_does 122 = .ok (.invokevirtual 380, 3) := by decide +kernel
theorem dX8_does_125 : decode cX8_does 125 = .ok (.ifCond .lt 7, 3) := by decide +kernel
theorem dX8_does_128 : decode cX8_does 128 = .ok (.iconst 1, 1) := by decide +kernel
theorem dX8_does_129 : decode cX8_does 129 = .ok (.goto 4, 3) := by decide +kernel
theorem dX8_does_132 : decode cX8_does 132 = .ok (.iconst 0, 1) := by decide +kernel
theorem dX8_does_133 : decode cX8_does 133 = .ok (.ireturn, 1) := by decide +kernel
theorem dX8_does_134 : decode cX8_does 134 = .ok (.aload_n 0, 1) := by decide +kernel
theorem dX8_does_135 : decode cX8_does 135 = .ok (.iload_n 2, 1) := by decide +kernel
theorem dX8_does_136 : decode cX8_does 136 = .ok (.invokevirtual 383, 3) := by decide +kernel
theorem dX8_does_139 : decode cX8_does 139 = .ok (.ifCond .lt 7, 3) := by decide +kernel
theorem dX8_does_142 : decode cX8_does 142 = .ok (.iconst 1, 1) := by decide +kernel
theorem dX8_does_143 : decode cX8_does 143 = .ok (.goto 4, 3) := by decide +kernel
theorem dX8_does_146 : decode cX8_does 146 = .ok (.iconst 0, 1) := by decide +kernel
theorem dX8_does_147 : decode cX8_does 147 = .ok (.ireturn, 1) := by decide +kernel
theorem dX8_does_148 : decode cX8_does 148 = .ok (.iconst 0, 1) := by decide +kernel
theorem dX8_does_149 : decode cX8_does 149 = .ok (.ireturn, 1) := by decide +kernel
theorem dX9_thrown_0 : decode cX9_thrown 0 = .ok (.aload_n 0, 1) := by decide +kernel
theorem dX9_thrown_1 : decode cX9_thrown 1 = .ok (.getfield 1, 3) := by decide +kernel
theorem dX9_thrown_4 : decode cX9_thrown 4 = .ok (.ireturn, 1) := by decide +kernel
theorem dX9_in_0 : decode cX9_in 0 = .ok (.lload_n 0, 1) := by decide +kernel
theorem dX9_in_1 : decode cX9_in 1 = .ok (.lload_n 2, 1) := by decide +kernel
end
section
theorem dX9_in_2 : decode cX9_in 2 = .ok (.lcmp, 1) := by decide +kernel
theorem dX9_in_3 : decode cX9_in 3 = .ok (.ifCond .lt 14, 3) := by decide +kernel
theorem dX9_in_6 : decode cX9_in 6 = .ok (.lload_n 0, 1) := by decide +kernel
theorem dX9_in_7 : decode cX9_in 7 = .ok (.lload 4, 2) := by decide +kernel
theorem dX9_in_9 : decode cX9_in 9 = .ok (.lcmp, 1) := by decide +kernel
theorem dX9_in_10 : decode cX9_in 10 = .ok (.ifCond .gt 7, 3) := by decide +kernel
theorem dX9_in_13 : decode cX9_in 13 = .ok (.iconst 1, 1) := by decide +kernel
theorem dX9_in_14 : decode cX9_in 14 = .ok (.goto 4, 3) := by decide +kernel
theorem dX9_in_17 : decode cX9_in 17 = .ok (.iconst 0, 1) := by decide +kernel
theorem dX9_in_18 : decode cX9_in 18 = .ok (.ireturn, 1) := by decide +kernel
theorem dX9_flag_0 : decode cX9_flag 0 = .ok (.iload_n 0, 1) := by decide +kernel
theorem dX9_flag_1 : decode cX9_flag 1 = .ok (.ifCond .eq 7, 3) := by decide +kernel
theorem dX9_flag_4 : decode cX9_flag 4 = .ok (.iconst 1, 1) := by decide +kernel
theorem dX9_flag_5 : decode cX9_flag 5 = .ok (.goto 4, 3) := by decide +kernel
theorem dX9_flag_8 : decode cX9_flag 8 = .ok (.iconst 0, 1) := by decide +kernel
theorem dX9_flag_9 : decode cX9_flag 9 = .ok (.ireturn, 1) := by decide +kernel
theorem dX9_enters_0 : decode cX9_enters 0 = .ok (.aload_n 0, 1) := by decide +kernel
theorem dX9_enters_1 : decode cX9_enters 1 = .ok (.getfield 7, 3) := by decide +kernel
theorem dX9_enters_4 : decode cX9_enters 4 = .ok (.aload_n 0, 1) := by decide +kernel
theorem dX9_enters_5 : decode cX9_enters 5 = .ok (.getfield 11, 3) := by decide +kernel
theorem dX9_enters_8 : decode cX9_enters 8 = .ok (.lload_n 1, 1) := by decide +kernel
theorem dX9_enters_9 : decode cX9_enters 9 = .ok (.lastore, 1) := by decide +kernel
theorem dX9_enters_10 : decode cX9_enters 10 = .ok (.aload_n 0, 1) := by decide +kernel
theorem dX9_enters_11 : decode cX9_enters 11 = .ok (.dup, 1) := by decide +kernel
theorem dX9_enters_12 : decode cX9_enters 12 = .ok (.getfield 11, 3) := by decide +kernel
theorem dX9_enters_15 : decode cX9_enters 15 = .ok (.iconst 1, 1) := by decide +kernel
theorem dX9_enters_16 : decode cX9_enters 16 = .ok (.iadd, 1) := by decide +kernel
theorem dX9_enters_17 : decode cX9_enters 17 = .ok (.putfield 11, 3) := by decide +kernel
theorem dX9_enters_20 : decode cX9_enters 20 = .ok (.return_, 1) := by decide +kernel
theorem dX9_sign_0 : decode cX9_sign 0 = .ok (.aload_n 0, 1) := by decide +kernel
theorem dX9_sign_1 : decode cX9_sign 1 = .ok (.iconst 0, 1) := by decide +kernel
theorem dX9_sign_2 : decode cX9_sign 2 = .ok (.putfield 1, 3) := by decide +kernel
theorem dX9_sign_5 : decode cX9_sign 5 = .ok (.aload_n 0, 1) := by decide +kernel
theorem dX9_sign_6 : decode cX9_sign 6 = .ok (.getfield 14, 3) := by decide +kernel
theorem dX9_sign_9 : decode cX9_sign 9 = .ok (.bipush 96, 2) := by decide +kernel
theorem dX9_sign_11 : decode cX9_sign 11 = .ok (.if_icmp .le 5, 3) := by decide +kernel
theorem dX9_sign_14 : decode cX9_sign 14 = .ok (.iconst (-1), 1) := by decide +kernel
theorem dX9_sign_15 : decode cX9_sign 15 = .ok (.ireturn, 1) := by decide +kernel
theorem dX9_sign_16 : decode cX9_sign 16 = .ok (.iconst 0, 1) := by decide +kernel
theorem dX9_sign_17 : decode cX9_sign 17 = .ok (.istore_n 2, 1) := by decide +kernel
theorem dX9_sign_18 : decode cX9_sign 18 = .ok (.iload_n 2, 1) := by decide +kernel
theorem dX9_sign_19 : decode cX9_sign 19 = .ok (.iconst 4, 1) := by decide +kernel
theorem dX9_sign_20 : decode cX9_sign 20 = .ok (.if_icmp .ge 33, 3) := by decide +kernel
theorem dX9_sign_23 : decode cX9_sign 23 = .ok (.aload_n 0, 1) := by decide +kernel
theorem dX9_sign_24 : decode cX9_sign 24 = .ok (.getfield 17, 3) := by decide +kernel
theorem dX9_sign_27 : decode cX9_sign 27 = .ok (.aload_n 0, 1) := by decide +kernel
theorem dX9_sign_28 : decode cX9_sign 28 = .ok (.getfield 14, 3) := by decide +kernel
theorem dX9_sign_31 : decode cX9_sign 31 = .ok (.iload_n 2, 1) := by decide +kernel
theorem dX9_sign_32 : decode cX9_sign 32 = .ok (.iadd, 1) := by decide +kernel
theorem dX9_sign_33 : decode cX9_sign 33 = .ok (.iload_n 1, 1) := by decide +kernel
theorem dX9_sign_34 : decode cX9_sign 34 = .ok (.bipush 24, 2) := by decide +kernel
theorem dX9_sign_36 : decode cX9_sign 36 = .ok (.bipush 8, 2) := by decide +kernel
theorem dX9_sign_38 : decode cX9_sign 38 = .ok (.iload_n 2, 1) := by decide +kernel
theorem dX9_sign_39 : decode cX9_sign 39 = .ok (.imul, 1) := by decide +kernel
theorem dX9_sign_40 : decode cX9_sign 40 = .ok (.isub, 1) := by decide +kernel
theorem dX9_sign_41 : decode cX9_sign 41 = .ok (.ishr, 1) := by decide +kernel
theorem dX9_sign_42 : decode cX9_sign 42 = .ok (.sipush 255, 3) := by decide +kernel
theorem dX9_sign_45 : decode cX9_sign 45 = .ok (.iand, 1) := by decide +kernel
theorem dX9_sign_46 : decode cX9_sign 46 = .ok (.iastore, 1) := by decide +kernel
theorem dX9_sign_47 : decode cX9_sign 47 = .ok (.iinc 2 1, 3) := by decide +kernel
theorem dX9_sign_50 : decode cX9_sign 50 = .ok (.goto (-32), 3) := by decide +kernel
theorem dX9_sign_53 : decode cX9_sign 53 = .ok (.aload_n 0, 1) := by decide +kernel
theorem dX9_sign_54 : decode cX9_sign 54 = .ok (.dup, 1) := by decide +kernel
theorem dX9_sign_55 : decode cX9_sign 55 = .ok (.getfield 14, 3) := by decide +kernel
theorem dX9_sign_58 : decode cX9_sign 58 = .ok (.iconst 4, 1) := by decide +kernel
theorem dX9_sign_59 : decode cX9_sign 59 = .ok (.iadd, 1) := by decide +kernel
theorem dX9_sign_60 : decode cX9_sign 60 = .ok (.putfield 14, 3) := by decide +kernel
theorem dX9_sign_63 : decode cX9_sign 63 = .ok (.aload_n 0, 1) := by decide +kernel
theorem dX9_sign_64 : decode cX9_sign 64 = .ok (.getfield 14, 3) := by decide +kernel
theorem dX9_sign_67 : decode cX9_sign 67 = .ok (.ireturn, 1) := by decide +kernel
theorem dX9_end_0 : decode cX9_end 0 = .ok (.aload_n 0, 1) := by decide +kernel
theorem dX9_end_1 : decode cX9_end 1 = .ok (.iconst 0, 1) := by decide +kernel
theorem dX9_end_2 : decode cX9_end 2 = .ok (.putfield 1, 3) := by decide +kernel
theorem dX9_end_5 : decode cX9_end 5 = .ok (.iload_n 1, 1) := by decide +kernel
theorem dX9_end_6 : decode cX9_end 6 = .ok (.i2l, 1) := by decide +kernel
theorem dX9_end_7 : decode cX9_end 7 = .ok (.lconst 0, 1) := by decide +kernel
theorem dX9_end_8 : decode cX9_end 8 = .ok (.aload_n 0, 1) := by decide +kernel
theorem dX9_end_9 : decode cX9_end 9 = .ok (.getfield 14, 3) := by decide +kernel
theorem dX9_end_12 : decode cX9_end 12 = .ok (.i2l, 1) := by decide +kernel
theorem dX9_end_13 : decode cX9_end 13 = .ok (.invokestatic 21, 3) := by decide +kernel
theorem dX9_end_16 : decode cX9_end 16 = .ok (.ifCond .ne 5, 3) := by decide +kernel
theorem dX9_end_19 : decode cX9_end 19 = .ok (.iconst 0, 1) := by decide +kernel
theorem dX9_end_20 : decode cX9_end 20 = .ok (.ireturn, 1) := by decide +kernel
theorem dX9_end_21 : decode cX9_end 21 = .ok (.aload_n 0, 1) := by decide +kernel
theorem dX9_end_22 : decode cX9_end 22 = .ok (.iload_n 1, 1) := by decide +kernel
theorem dX9_end_23 : decode cX9_end 23 = .ok (.putfield 14, 3) := by decide +kernel
theorem dX9_end_26 : decode cX9_end 26 = .ok (.iconst 1, 1) := by decide +kernel
theorem dX9_end_27 : decode cX9_end 27 = .ok (.ireturn, 1) := by decide +kernel
theorem dX9_takes_0 : decode cX9_takes 0 = .ok (.aload_n 0, 1) := by decide +kernel
theorem dX9_takes_1 : decode cX9_takes 1 = .ok (.getfield 25, 3) := by decide +kernel
theorem dX9_takes_4 : decode cX9_takes 4 = .ok (.aload_n 0, 1) := by decide +kernel
theorem dX9_takes_5 : decode cX9_takes 5 = .ok (.getfield 28, 3) := by decide +kernel
theorem dX9_takes_8 : decode cX9_takes 8 = .ok (.if_icmp .ge 20, 3) := by decide +kernel
theorem dX9_takes_11 : decode cX9_takes 11 = .ok (.aload_n 0, 1) := by decide +kernel
theorem dX9_takes_12 : decode cX9_takes 12 = .ok (.getfield 17, 3) := by decide +kernel
theorem dX9_takes_15 : decode cX9_takes 15 = .ok (.aload_n 0, 1) := by decide +kernel
theorem dX9_takes_16 : decode cX9_takes 16 = .ok (.getfield 25, 3) := by decide +kernel
theorem dX9_takes_19 : decode cX9_takes 19 = .ok (.iaload, 1) := by decide +kernel
theorem dX9_takes_20 : decode cX9_takes 20 = .ok (.iload_n 1, 1) := by decide +kernel
theorem dX9_takes_21 : decode cX9_takes 21 = .ok (.if_icmp .ne 7, 3) := by decide +kernel
theorem dX9_takes_24 : decode cX9_takes 24 = .ok (.iconst 1, 1) := by decide +kernel
theorem dX9_takes_25 : decode cX9_takes 25 = .ok (.goto 4, 3) := by decide +kernel
theorem dX9_takes_28 : decode cX9_takes 28 = .ok (.iconst 0, 1) := by decide +kernel
theorem dX9_takes_29 : decode cX9_takes 29 = .ok (.istore_n 2, 1) := by decide +kernel
theorem dX9_takes_30 : decode cX9_takes 30 = .ok (.aload_n 0, 1) := by decide +kernel
theorem dX9_takes_31 : decode cX9_takes 31 = .ok (.dup, 1) := by decide +kernel
theorem dX9_takes_32 : decode cX9_takes 32 = .ok (.getfield 25, 3) := by decide +kernel
theorem dX9_takes_35 : decode cX9_takes 35 = .ok (.iload_n 2, 1) := by decide +kernel
theorem dX9_takes_36 : decode cX9_takes 36 = .ok (.invokestatic 31, 3) := by decide +kernel
theorem dX9_takes_39 : decode cX9_takes 39 = .ok (.iadd, 1) := by decide +kernel
theorem dX9_takes_40 : decode cX9_takes 40 = .ok (.putfield 25, 3) := by decide +kernel
theorem dX9_takes_43 : decode cX9_takes 43 = .ok (.iload_n 2, 1) := by decide +kernel
theorem dX9_takes_44 : decode cX9_takes 44 = .ok (.ireturn, 1) := by decide +kernel
theorem dX9_isDigit_0 : decode cX9_isDigit 0 = .ok (.aload_n 0, 1) := by decide +kernel
theorem dX9_isDigit_1 : decode cX9_isDigit 1 = .ok (.getfield 25, 3) := by decide +kernel
theorem dX9_isDigit_4 : decode cX9_isDigit 4 = .ok (.aload_n 0, 1) := by decide +kernel
theorem dX9_isDigit_5 : decode cX9_isDigit 5 = .ok (.getfield 28, 3) := by decide +kernel
theorem dX9_isDigit_8 : decode cX9_isDigit 8 = .ok (.if_icmp .ge 29, 3) := by decide +kernel
theorem dX9_isDigit_11 : decode cX9_isDigit 11 = .ok (.aload_n 0, 1) := by decide +kernel
theorem dX9_isDigit_12 : decode cX9_isDigit 12 = .ok (.getfield 17, 3) := by decide +kernel
theorem dX9_isDigit_15 : decode cX9_isDigit 15 = .ok (.aload_n 0, 1) := by decide +kernel
theorem dX9_isDigit_16 : decode cX9_isDigit 16 = .ok (.getfield 25, 3) := by decide +kernel
theorem dX9_isDigit_19 : decode cX9_isDigit 19 = .ok (.iaload, 1) := by decide +kernel
theorem dX9_isDigit_20 : decode cX9_isDigit 20 = .ok (.i2l, 1) := by decide +kernel
theorem dX9_isDigit_21 : decode cX9_isDigit 21 = .ok (.ldc2_w 35, 3) := by decide +kernel
theorem dX9_isDigit_24 : decode cX9_isDigit 24 = .ok (.ldc2_w 37, 3) := by decide +kernel
theorem dX9_isDigit_27 : decode cX9_isDigit 27 = .ok (.invokestatic 21, 3) := by decide +kernel
theorem dX9_isDigit_30 : decode cX9_isDigit 30 = .ok (.ifCond .eq 7, 3) := by decide +kernel
theorem dX9_isDigit_33 : decode cX9_isDigit 33 = .ok (.iconst 1, 1) := by decide +kernel
theorem dX9_isDigit_34 : decode cX9_isDigit 34 = .ok (.goto 4, 3) := by decide +kernel
theorem dX9_isDigit_37 : decode cX9_isDigit 37 = .ok (.iconst 0, 1) := by decide +kernel
theorem dX9_isDigit_38 : decode cX9_isDigit 38 = .ok (.ireturn, 1) := by decide +kernel
theorem dX9_number_0 : decode cX9_number 0 = .ok (.iconst 0, 1) := by decide +kernel
theorem dX9_number_1 : decode cX9_number 1 = .ok (.istore 4, 2) := by decide +kernel
theorem dX9_number_3 : decode cX9_number 3 = .ok (.iconst 0, 1) := by decide +kernel
theorem dX9_number_4 : decode cX9_number 4 = .ok (.istore 5, 2) := by decide +kernel
theorem dX9_number_6 : decode cX9_number 6 = .ok (.aload_n 0, 1) := by decide +kernel
theorem dX9_number_7 : decode cX9_number 7 = .ok (.invokevirtual 39, 3) := by decide +kernel
theorem dX9_number_10 : decode cX9_number 10 = .ok (.ifCond .eq 45, 3) := by decide +kernel
theorem dX9_number_13 : decode cX9_number 13 = .ok (.iload 5, 2) := by decide +kernel
theorem dX9_number_15 : decode cX9_number 15 = .ok (.iload_n 1, 1) := by decide +kernel
theorem dX9_number_16 : decode cX9_number 16 = .ok (.if_icmp .ge 39, 3) := by decide +kernel
theorem dX9_number_19 : decode cX9_number 19 = .ok (.bipush 10, 2) := by decide +kernel
theorem dX9_number_21 : decode cX9_number 21 = .ok (.iload 4, 2) := by decide +kernel
theorem dX9_number_23 : decode cX9_number 23 = .ok (.imul, 1) := by decide +kernel
theorem dX9_number_24 : decode cX9_number 24 = .ok (.aload_n 0, 1) := by decide +kernel
theorem dX9_number_25 : decode cX9_number 25 = .ok (.getfield 17, 3) := by decide +kernel
theorem dX9_number_28 : decode cX9_number 28 = .ok (.aload_n 0, 1) := by decide +kernel
theorem dX9_number_29 : decode cX9_number 29 = .ok (.getfield 25, 3) := by decide +kernel
theorem dX9_number_32 : decode cX9_number 32 = .ok (.iaload, 1) := by decide +kernel
theorem dX9_number_33 : decode cX9_number 33 = .ok (.iadd, 1) := by decide +kernel
theorem dX9_number_34 : decode cX9_number 34 = .ok (.bipush 48, 2) := by decide +kernel
theorem dX9_number_36 : decode cX9_number 36 = .ok (.isub, 1) := by decide +kernel
theorem dX9_number_37 : decode cX9_number 37 = .ok (.istore 4, 2) := by decide +kernel
theorem dX9_number_39 : decode cX9_number 39 = .ok (.aload_n 0, 1) := by decide +kernel
theorem dX9_number_40 : decode cX9_number 40 = .ok (.dup, 1) := by decide +kernel
theorem dX9_number_41 : decode cX9_number 41 = .ok (.getfield 25, 3) := by decide +kernel
theorem dX9_number_44 : decode cX9_number 44 = .ok (.iconst 1, 1) := by decide +kernel
theorem dX9_number_45 : decode cX9_number 45 = .ok (.iadd, 1) := by decide +kernel
theorem dX9_number_46 : decode cX9_number 46 = .ok (.putfield 25, 3) := by decide +kernel
theorem dX9_number_49 : decode cX9_number 49 = .ok (.iinc 5 1, 3) := by decide +kernel
theorem dX9_number_52 : decode cX9_number 52 = .ok (.goto (-46), 3) := by decide +kernel
theorem dX9_number_55 : decode cX9_number 55 = .ok (.iload 5, 2) := by decide +kernel
theorem dX9_number_57 : decode cX9_number 57 = .ok (.ifCond .eq 10, 3) := by decide +kernel
theorem dX9_number_60 : decode cX9_number 60 = .ok (.aload_n 0, 1) := by decide +kernel
theorem dX9_number_61 : decode cX9_number 61 = .ok (.invokevirtual 39, 3) := by decide +kernel
theorem dX9_number_64 : decode cX9_number 64 = .ok (.ifCond .eq 5, 3) := by decide +kernel
theorem dX9_number_67 : decode cX9_number 67 = .ok (.iconst (-1), 1) := by decide +kernel
theorem dX9_number_68 : decode cX9_number 68 = .ok (.ireturn, 1) := by decide +kernel
theorem dX9_number_69 : decode cX9_number 69 = .ok (.iload 4, 2) := by decide +kernel
theorem dX9_number_71 : decode cX9_number 71 = .ok (.i2l, 1) := by decide +kernel
theorem dX9_number_72 : decode cX9_number 72 = .ok (.iload_n 2, 1) := by decide +kernel
theorem dX9_number_73 : decode cX9_number 73 = .ok (.i2l, 1) := by decide +kernel
theorem dX9_number_74 : decode cX9_number 74 = .ok (.iload_n 3, 1) := by decide +kernel
theorem dX9_number_75 : decode cX9_number 75 = .ok (.i2l, 1) := by decide +kernel
theorem dX9_number_76 : decode cX9_number 76 = .ok (.invokestatic 21, 3) := by decide +kernel
theorem dX9_number_79 : decode cX9_number 79 = .ok (.ifCond .ne 15, 3) := by decide +kernel
theorem dX9_number_82 : decode cX9_number 82 = .ok (.aload_n 0, 1) := by decide +kernel
theorem dX9_number_83 : decode cX9_number 83 = .ok (.dup, 1) := by decide +kernel
theorem dX9_number_84 : decode cX9_number 84 = .ok (.getfield 25, 3) := by decide +kernel
theorem dX9_number_87 : decode cX9_number 87 = .ok (.iconst 1, 1) := by decide +kernel
theorem dX9_number_88 : decode cX9_number 88 = .ok (.isub, 1) := by decide +kernel
theorem dX9_number_89 : decode cX9_number 89 = .ok (.putfield 25, 3) := by decide +kernel
theorem dX9_number_92 : decode cX9_number 92 = .ok (.iconst (-1), 1) := by decide +kernel
theorem dX9_number_93 : decode cX9_number 93 = .ok (.ireturn, 1) := by decide +kernel
theorem dX9_number_94 : decode cX9_number 94 = .ok (.iload 4, 2) := by decide +kernel
theorem dX9_number_96 : decode cX9_number 96 = .ok (.ireturn, 1) := by decide +kernel
theorem dX9_init_0 : decode cX9_init 0 = .ok (.aload_n 0, 1) := by decide +kernel
theorem dX9_init_1 : decode cX9_init 1 = .ok (.invokespecial 43, 3) := by decide +kernel
theorem dX9_init_4 : decode cX9_init 4 = .ok (.aload_n 0, 1) := by decide +kernel
theorem dX9_init_5 : decode cX9_init 5 = .ok (.bipush 64, 2) := by decide +kernel
theorem dX9_init_7 : decode cX9_init 7 = .ok (.newarray .long, 2) := by decide +kernel
theorem dX9_init_9 : decode cX9_init 9 = .ok (.putfield 7, 3) := by decide +kernel
theorem dX9_init_12 : decode cX9_init 12 = .ok (.aload_n 0, 1) := by decide +kernel
theorem dX9_init_13 : decode cX9_init 13 = .ok (.bipush 100, 2) := by decide +kernel
theorem dX9_init_15 : decode cX9_init 15 = .ok (.newarray .int, 2) := by decide +kernel
theorem dX9_init_17 : decode cX9_init 17 = .ok (.putfield 17, 3) := by decide +kernel
theorem dX9_init_20 : decode cX9_init 20 = .ok (.aload_n 0, 1) := by decide +kernel
theorem dX9_init_21 : decode cX9_init 21 = .ok (.sipush 846, 3) := by decide +kernel
theorem dX9_init_24 : decode cX9_init 24 = .ok (.newarray .int, 2) := by decide +kernel
theorem dX9_init_26 : decode cX9_init 26 = .ok (.putfield 49, 3) := by decide +kernel
theorem dX9_init_29 : decode cX9_init 29 = .ok (.aload_n 0, 1) := by decide +kernel
theorem dX9_init_30 : decode cX9_init 30 = .ok (.bipush 16, 2) := by decide +kernel
theorem dX9_init_32 : decode cX9_init 32 = .ok (.newarray .int, 2) := by decide +kernel
theorem dX9_init_34 : decode cX9_init 34 = .ok (.putfield 52, 3) := by decide +kernel
theorem dX9_init_37 : decode cX9_init 37 = .ok (.aload_n 0, 1) := by decide +kernel
theorem dX9_init_38 : decode cX9_init 38 = .ok (.sipush 2000, 3) := by decide +kernel
theorem dX9_init_41 : decode cX9_init 41 = .ok (.newarray .int, 2) := by decide +kernel
theorem dX9_init_43 : decode cX9_init 43 = .ok (.putfield 55, 3) := by decide +kernel
theorem dX9_init_46 : decode cX9_init 46 = .ok (.aload_n 0, 1) := by decide +kernel
theorem dX9_init_47 : decode cX9_init 47 = .ok (.sipush 2000, 3) := by decide +kernel
theorem dX9_init_50 : decode cX9_init 50 = .ok (.newarray .int, 2) := by decide +kernel
theorem dX9_init_52 : decode cX9_init 52 = .ok (.putfield 58, 3) := by decide +kernel
theorem dX9_init_55 : decode cX9_init 55 = .ok (.aload_n 0, 1) := by decide +kernel
theorem dX9_init_56 : decode cX9_init 56 = .ok (.iconst 4, 1) := by decide +kernel
theorem dX9_init_57 : decode cX9_init 57 = .ok (.newarray .int, 2) := by decide +kernel
theorem dX9_init_59 : decode cX9_init 59 = .ok (.putfield 61, 3) := by decide +kernel
theorem dX9_init_62 : decode cX9_init 62 = .ok (.aload_n 0, 1) := by decide +kernel
theorem dX9_init_63 : decode cX9_init 63 = .ok (.sipush 400, 3) := by decide +kernel
theorem dX9_init_66 : decode cX9_init 66 = .ok (.newarray .int, 2) := by decide +kernel
theorem dX9_init_68 : decode cX9_init 68 = .ok (.putfield 64, 3) := by decide +kernel
theorem dX9_init_71 : decode cX9_init 71 = .ok (.aload_n 0, 1) := by decide +kernel
theorem dX9_init_72 : decode cX9_init 72 = .ok (.bipush 8, 2) := by decide +kernel
theorem dX9_init_74 : decode cX9_init 74 = .ok (.newarray .int, 2) := by decide +kernel
theorem dX9_init_76 : decode cX9_init 76 = .ok (.putfield 67, 3) := by decide +kernel
theorem dX9_init_79 : decode cX9_init 79 = .ok (.aload_n 0, 1) := by decide +kernel
theorem dX9_init_80 : decode cX9_init 80 = .ok (.bipush 8, 2) := by decide +kernel
theorem dX9_init_82 : decode cX9_init 82 = .ok (.newarray .int, 2) := by decide +kernel
theorem dX9_init_84 : decode cX9_init 84 = .ok (.putfield 70, 3) := by decide +kernel
theorem dX9_init_87 : decode cX9_init 87 = .ok (.aload_n 0, 1) := by decide +kernel
theorem dX9_init_88 : decode cX9_init 88 = .ok (.bipush 8, 2) := by decide +kernel
theorem dX9_init_90 : decode cX9_init 90 = .ok (.newarray .int, 2) := by decide +kernel
theorem dX9_init_92 : decode cX9_init 92 = .ok (.putfield 73, 3) := by decide +kernel
theorem dX9_init_95 : decode cX9_init 95 = .ok (.aload_n 0, 1) := by decide +kernel
theorem dX9_init_96 : decode cX9_init 96 = .ok (.iconst 0, 1) := by decide +kernel
theorem dX9_init_97 : decode cX9_init 97 = .ok (.iconst 3, 1) := by decide +kernel
theorem dX9_init_98 : decode cX9_init 98 = .ok (.invokevirtual 76, 3) := by decide +kernel
theorem dX9_init_101 : decode cX9_init 101 = .ok (.iconst 0, 1) := by decide +kernel
theorem dX9_init_102 : decode cX9_init 102 = .ok (.istore_n 1, 1) := by decide +kernel
theorem dX9_init_103 : decode cX9_init 103 = .ok (.iload_n 1, 1) := by decide +kernel
theorem dX9_init_104 : decode cX9_init 104 = .ok (.iconst 3, 1) := by decide +kernel
theorem dX9_init_105 : decode cX9_init 105 = .ok (.if_icmp .ge 17, 3) := by decide +kernel
theorem dX9_init_108 : decode cX9_init 108 = .ok (.aload_n 0, 1) := by decide +kernel
theorem dX9_init_109 : decode cX9_init 109 = .ok (.iconst 1, 1) := by decide +kernel
theorem dX9_init_110 : decode cX9_init 110 = .ok (.iload_n 1, 1) := by decide +kernel
theorem dX9_init_111 : decode cX9_init 111 = .ok (.iadd, 1) := by decide +kernel
theorem dX9_init_112 : decode cX9_init 112 = .ok (.iconst 4, 1) := by decide +kernel
theorem dX9_init_113 : decode cX9_init 113 = .ok (.invokevirtual 76, 3) := by decide +kernel
theorem dX9_init_116 : decode cX9_init 116 = .ok (.iinc 1 1, 3) := by decide +kernel
theorem dX9_init_119 : decode cX9_init 119 = .ok (.goto (-16), 3) := by decide +kernel
theorem dX9_init_122 : decode cX9_init 122 = .ok (.return_, 1) := by decide +kernel
theorem dX9_of_0 : decode cX9_of 0 = .ok (.aload_n 0, 1) := by decide +kernel
theorem dX9_of_1 : decode cX9_of 1 = .ok (.getfield 49, 3) := by decide +kernel
theorem dX9_of_4 : decode cX9_of 4 = .ok (.aload_n 0, 1) := by decide +kernel
theorem dX9_of_5 : decode cX9_of 5 = .ok (.getfield 80, 3) := by decide +kernel
theorem dX9_of_8 : decode cX9_of 8 = .ok (.iload_n 1, 1) := by decide +kernel
theorem dX9_of_9 : decode cX9_of 9 = .ok (.iadd, 1) := by decide +kernel
theorem dX9_of_10 : decode cX9_of 10 = .ok (.iaload, 1) := by decide +kernel
theorem dX9_of_11 : decode cX9_of 11 = .ok (.ireturn, 1) := by decide +kernel
theorem dX9_puts_0 : decode cX9_puts 0 = .ok (.aload_n 0, 1) := by decide +kernel
theorem dX9_puts_1 : decode cX9_puts 1 = .ok (.getfield 49, 3) := by decide +kernel
theorem dX9_puts_4 : decode cX9_puts 4 = .ok (.aload_n 0, 1) := by decide +kernel
theorem dX9_puts_5 : decode cX9_puts 5 = .ok (.getfield 80, 3) := by decide +kernel
theorem dX9_puts_8 : decode cX9_puts 8 = .ok (.iload_n 1, 1) := by decide +kernel
theorem dX9_puts_9 : decode cX9_puts 9 = .ok (.iadd, 1) := by decide +kernel
theorem dX9_puts_10 : decode cX9_puts 10 = .ok (.iload_n 2, 1) := by decide +kernel
theorem dX9_puts_11 : decode cX9_puts 11 = .ok (.iastore, 1) := by decide +kernel
theorem dX9_puts_12 : decode cX9_puts 12 = .ok (.return_, 1) := by decide +kernel
theorem dX9_more_0 : decode cX9_more 0 = .ok (.aload_n 0, 1) := by decide +kernel
theorem dX9_more_1 : decode cX9_more 1 = .ok (.getfield 49, 3) := by decide +kernel
theorem dX9_more_4 : decode cX9_more 4 = .ok (.aload_n 0, 1) := by decide +kernel
theorem dX9_more_5 : decode cX9_more 5 = .ok (.getfield 80, 3) := by decide +kernel
theorem dX9_more_8 : decode cX9_more 8 = .ok (.iload_n 1, 1) := by decide +kernel
theorem dX9_more_9 : decode cX9_more 9 = .ok (.iadd, 1) := by decide +kernel
theorem dX9_more_10 : decode cX9_more 10 = .ok (.dup2, 1) := by decide +kernel
theorem dX9_more_11 : decode cX9_more 11 = .ok (.iaload, 1) := by decide +kernel
theorem dX9_more_12 : decode cX9_more 12 = .ok (.iload_n 2, 1) := by decide +kernel
theorem dX9_more_13 : decode cX9_more 13 = .ok (.iadd, 1) := by decide +kernel
theorem dX9_more_14 : decode cX9_more 14 = .ok (.iastore, 1) := by decide +kernel
theorem dX9_more_15 : decode cX9_more 15 = .ok (.return_, 1) := by decide +kernel
theorem dX9_tries_0 : decode cX9_tries 0 = .ok (.iconst 0, 1) := by decide +kernel
theorem dX9_tries_1 : decode cX9_tries 1 = .ok (.istore_n 1, 1) := by decide +kernel
theorem dX9_tries_2 : decode cX9_tries 2 = .ok (.iload_n 1, 1) := by decide +kernel
theorem dX9_tries_3 : decode cX9_tries 3 = .ok (.sipush 423, 3) := by decide +kernel
theorem dX9_tries_6 : decode cX9_tries 6 = .ok (.if_icmp .ge 25, 3) := by decide +kernel
theorem dX9_tries_9 : decode cX9_tries 9 = .ok (.aload_n 0, 1) := by decide +kernel
theorem dX9_tries_10 : decode cX9_tries 10 = .ok (.getfield 49, 3) := by decide +kernel
theorem dX9_tries_13 : decode cX9_tries 13 = .ok (.sipush 423, 3) := by decide +kernel
theorem dX9_tries_16 : decode cX9_tries 16 = .ok (.iload_n 1, 1) := by decide +kernel
theorem dX9_tries_17 : decode cX9_tries 17 = .ok (.iadd, 1) := by decide +kernel
theorem dX9_tries_18 : decode cX9_tries 18 = .ok (.aload_n 0, 1) := by decide +kernel
theorem dX9_tries_19 : decode cX9_tries 19 = .ok (.getfield 49, 3) := by decide +kernel
theorem dX9_tries_22 : decode cX9_tries 22 = .ok (.iload_n 1, 1) := by decide +kernel
theorem dX9_tries_23 : decode cX9_tries 23 = .ok (.iaload, 1) := by decide +kernel
theorem dX9_tries_24 : decode cX9_tries 24 = .ok (.iastore, 1) := by decide +kernel
theorem dX9_tries_25 : decode cX9_tries 25 = .ok (.iinc 1 1, 3) := by decide +kernel
theorem dX9_tries_28 : decode cX9_tries 28 = .ok (.goto (-26), 3) := by decide +kernel
theorem dX9_tries_31 : decode cX9_tries 31 = .ok (.aload_n 0, 1) := by decide +kernel
theorem dX9_tries_32 : decode cX9_tries 32 = .ok (.sipush 423, 3) := by decide +kernel
theorem dX9_tries_35 : decode cX9_tries 35 = .ok (.putfield 80, 3) := by decide +kernel
theorem dX9_tries_38 : decode cX9_tries 38 = .ok (.return_, 1) := by decide +kernel
theorem dX9_isBack_0 : decode cX9_isBack 0 = .ok (.aload_n 0, 1) := by decide +kernel
theorem dX9_isBack_1 : decode cX9_isBack 1 = .ok (.iconst 0, 1) := by decide +kernel
theorem dX9_isBack_2 : decode cX9_isBack 2 = .ok (.putfield 80, 3) := by decide +kernel
theorem dX9_isBack_5 : decode cX9_isBack 5 = .ok (.return_, 1) := by decide +kernel
theorem dX9_isTimer_0 : decode cX9_isTimer 0 = .ok (.iload_n 1, 1) := by decide +kernel
theorem dX9_isTimer_1 : decode cX9_isTimer 1 = .ok (.i2l, 1) := by decide +kernel
theorem dX9_isTimer_2 : decode cX9_isTimer 2 = .ok (.lconst 0, 1) := by decide +kernel
theorem dX9_isTimer_3 : decode cX9_isTimer 3 = .ok (.ldc2_w 83, 3) := by decide +kernel
theorem dX9_isTimer_6 : decode cX9_isTimer 6 = .ok (.invokestatic 21, 3) := by decide +kernel
theorem dX9_isTimer_9 : decode cX9_isTimer 9 = .ok (.ifCond .eq 20, 3) := by decide +kernel
theorem dX9_isTimer_12 : decode cX9_isTimer 12 = .ok (.aload_n 0, 1) := by decide +kernel
theorem dX9_isTimer_13 : decode cX9_isTimer 13 = .ok (.sipush 215, 3) := by decide +kernel
theorem dX9_isTimer_16 : decode cX9_isTimer 16 = .ok (.iload_n 1, 1) := by decide +kernel
theorem dX9_isTimer_17 : decode cX9_isTimer 17 = .ok (.iadd, 1) := by decide +kernel
theorem dX9_isTimer_18 : decode cX9_isTimer 18 = .ok (.invokevirtual 85, 3) := by decide +kernel
theorem dX9_isTimer_21 : decode cX9_isTimer 21 = .ok (.iconst 1, 1) := by decide +kernel
theorem dX9_isTimer_22 : decode cX9_isTimer 22 = .ok (.if_icmp .ne 7, 3) := by decide +kernel
theorem dX9_isTimer_25 : decode cX9_isTimer 25 = .ok (.iconst 1, 1) := by decide +kernel
theorem dX9_isTimer_26 : decode cX9_isTimer 26 = .ok (.goto 4, 3) := by decide +kernel
theorem dX9_isTimer_29 : decode cX9_isTimer 29 = .ok (.iconst 0, 1) := by decide +kernel
theorem dX9_isTimer_30 : decode cX9_isTimer 30 = .ok (.ireturn, 1) := by decide +kernel
theorem dX9_goes_0 : decode cX9_goes 0 = .ok (.aload_n 0, 1) := by decide +kernel
theorem dX9_goes_1 : decode cX9_goes 1 = .ok (.iload_n 1, 1) := by decide +kernel
theorem dX9_goes_2 : decode cX9_goes 2 = .ok (.invokevirtual 89, 3) := by decide +kernel
theorem dX9_goes_5 : decode cX9_goes 5 = .ok (.ifCond .eq 19, 3) := by decide +kernel
theorem dX9_goes_8 : decode cX9_goes 8 = .ok (.aload_n 0, 1) := by decide +kernel
theorem dX9_goes_9 : decode cX9_goes 9 = .ok (.sipush 343, 3) := by decide +kernel
theorem dX9_goes_12 : decode cX9_goes 12 = .ok (.iload_n 1, 1) := by decide +kernel
theorem dX9_goes_13 : decode cX9_goes 13 = .ok (.iadd, 1) := by decide +kernel
theorem dX9_goes_14 : decode cX9_goes 14 = .ok (.invokevirtual 85, 3) := by decide +kernel
theorem dX9_goes_17 : decode cX9_goes 17 = .ok (.ifCond .ne 7, 3) := by decide +kernel
theorem dX9_goes_20 : decode cX9_goes 20 = .ok (.iconst 1, 1) := by decide +kernel
theorem dX9_goes_21 : decode cX9_goes 21 = .ok (.goto 4, 3) := by decide +kernel
theorem dX9_goes_24 : decode cX9_goes 24 = .ok (.iconst 0, 1) := by decide +kernel
theorem dX9_goes_25 : decode cX9_goes 25 = .ok (.ireturn, 1) := by decide +kernel
theorem dX9_span_0 : decode cX9_span 0 = .ok (.iconst 1, 1) := by decide +kernel
theorem dX9_span_1 : decode cX9_span 1 = .ok (.istore_n 2, 1) := by decide +kernel
theorem dX9_span_2 : decode cX9_span 2 = .ok (.iconst 0, 1) := by decide +kernel
theorem dX9_span_3 : decode cX9_span 3 = .ok (.istore_n 3, 1) := by decide +kernel
theorem dX9_span_4 : decode cX9_span 4 = .ok (.iload_n 3, 1) := by decide +kernel
theorem dX9_span_5 : decode cX9_span 5 = .ok (.iload_n 1, 1) := by decide +kernel
theorem dX9_span_6 : decode cX9_span 6 = .ok (.if_icmp .ge 19, 3) := by decide +kernel
theorem dX9_span_9 : decode cX9_span 9 = .ok (.iload_n 2, 1) := by decide +kernel
theorem dX9_span_10 : decode cX9_span 10 = .ok (.aload_n 0, 1) := by decide +kernel
theorem dX9_span_11 : decode cX9_span 11 = .ok (.iconst 1, 1) := by decide +kernel
theorem dX9_span_12 : decode cX9_span 12 = .ok (.iload_n 3, 1) := by decide +kernel
theorem dX9_span_13 : decode cX9_span 13 = .ok (.iadd, 1) := by decide +kernel
theorem dX9_span_14 : decode cX9_span 14 = .ok (.invokevirtual 85, 3) := by decide +kernel
theorem dX9_span_17 : decode cX9_span 17 = .ok (.imul, 1) := by decide +kernel
theorem dX9_span_18 : decode cX9_span 18 = .ok (.istore_n 2, 1) := by decide +kernel
theorem dX9_span_19 : decode cX9_span 19 = .ok (.iinc 3 1, 3) := by decide +kernel
theorem dX9_span_22 : decode cX9_span 22 = .ok (.goto (-18), 3) := by decide +kernel
theorem dX9_span_25 : decode cX9_span 25 = .ok (.iload_n 2, 1) := by decide +kernel
theorem dX9_span_26 : decode cX9_span 26 = .ok (.ireturn, 1) := by decide +kernel
theorem dX9_whole_0 : decode cX9_whole 0 = .ok (.aload_n 0, 1) := by decide +kernel
theorem dX9_whole_1 : decode cX9_whole 1 = .ok (.aload_n 0, 1) := by decide +kernel
theorem dX9_whole_2 : decode cX9_whole 2 = .ok (.iconst 0, 1) := by decide +kernel
theorem dX9_whole_3 : decode cX9_whole 3 = .ok (.invokevirtual 85, 3) := by decide +kernel
theorem dX9_whole_6 : decode cX9_whole 6 = .ok (.invokevirtual 93, 3) := by decide +kernel
theorem dX9_whole_9 : decode cX9_whole 9 = .ok (.ireturn, 1) := by decide +kernel
theorem dX9_levelFor_0 : decode cX9_levelFor 0 = .ok (.iconst 0, 1) := by decide +kernel
theorem dX9_levelFor_1 : decode cX9_levelFor 1 = .ok (.istore_n 2, 1) := by decide +kernel
theorem dX9_levelFor_2 : decode cX9_levelFor 2 = .ok (.iload_n 2, 1) := by decide +kernel
theorem dX9_levelFor_3 : decode cX9_levelFor 3 = .ok (.aload_n 0, 1) := by decide +kernel
theorem dX9_levelFor_4 : decode cX9_levelFor 4 = .ok (.iconst 0, 1) := by decide +kernel
theorem dX9_levelFor_5 : decode cX9_levelFor 5 = .ok (.invokevirtual 85, 3) := by decide +kernel
theorem dX9_levelFor_8 : decode cX9_levelFor 8 = .ok (.if_icmp .ge 22, 3) := by decide +kernel
theorem dX9_levelFor_11 : decode cX9_levelFor 11 = .ok (.aload_n 0, 1) := by decide +kernel
theorem dX9_levelFor_12 : decode cX9_levelFor 12 = .ok (.iload_n 2, 1) := by decide +kernel
theorem dX9_levelFor_13 : decode cX9_levelFor 13 = .ok (.iconst 1, 1) := by decide +kernel
theorem dX9_levelFor_14 : decode cX9_levelFor 14 = .ok (.iadd, 1) := by decide +kernel
theorem dX9_levelFor_15 : decode cX9_levelFor 15 = .ok (.invokevirtual 93, 3) := by decide +kernel
theorem dX9_levelFor_18 : decode cX9_levelFor 18 = .ok (.iload_n 1, 1) := by decide +kernel
theorem dX9_levelFor_19 : decode cX9_levelFor 19 = .ok (.if_icmp .le 5, 3) := by decide +kernel
theorem dX9_levelFor_22 : decode cX9_levelFor 22 = .ok (.iload_n 2, 1) := by decide +kernel
theorem dX9_levelFor_23 : decode cX9_levelFor 23 = .ok (.ireturn, 1) := by decide +kernel
theorem dX9_levelFor_24 : decode cX9_levelFor 24 = .ok (.iinc 2 1, 3) := by decide +kernel
theorem dX9_levelFor_27 : decode cX9_levelFor 27 = .ok (.goto (-25), 3) := by decide +kernel
theorem dX9_levelFor_30 : decode cX9_levelFor 30 = .ok (.iconst (-1), 1) := by decide +kernel
theorem dX9_levelFor_31 : decode cX9_levelFor 31 = .ok (.ireturn, 1) := by decide +kernel
theorem dX9_lays_0 : decode cX9_lays 0 = .ok (.aload_n 0, 1) := by decide +kernel
theorem dX9_lays_1 : decode cX9_lays 1 = .ok (.aload_n 0, 1) := by decide +kernel
theorem dX9_lays_2 : decode cX9_lays 2 = .ok (.sipush 231, 3) := by decide +kernel
theorem dX9_lays_5 : decode cX9_lays 5 = .ok (.iload_n 1, 1) := by decide +kernel
theorem dX9_lays_6 : decode cX9_lays 6 = .ok (.iadd, 1) := by decide +kernel
theorem dX9_lays_7 : decode cX9_lays 7 = .ok (.invokevirtual 85, 3) := by decide +kernel
theorem dX9_lays_10 : decode cX9_lays 10 = .ok (.aload_n 0, 1) := by decide +kernel
theorem dX9_lays_11 : decode cX9_lays 11 = .ok (.bipush 6, 2) := by decide +kernel
theorem dX9_lays_13 : decode cX9_lays 13 = .ok (.invokevirtual 85, 3) := by decide +kernel
theorem dX9_lays_16 : decode cX9_lays 16 = .ok (.isub, 1) := by decide +kernel
theorem dX9_lays_17 : decode cX9_lays 17 = .ok (.invokevirtual 96, 3) := by decide +kernel
theorem dX9_lays_20 : decode cX9_lays 20 = .ok (.istore_n 2, 1) := by decide +kernel
theorem dX9_lays_21 : decode cX9_lays 21 = .ok (.aload_n 0, 1) := by decide +kernel
theorem dX9_lays_22 : decode cX9_lays 22 = .ok (.sipush 391, 3) := by decide +kernel
theorem dX9_lays_25 : decode cX9_lays 25 = .ok (.iload_n 1, 1) := by decide +kernel
theorem dX9_lays_26 : decode cX9_lays 26 = .ok (.iadd, 1) := by decide +kernel
theorem dX9_lays_27 : decode cX9_lays 27 = .ok (.iload_n 2, 1) := by decide +kernel
theorem dX9_lays_28 : decode cX9_lays 28 = .ok (.invokevirtual 76, 3) := by decide +kernel
theorem dX9_lays_31 : decode cX9_lays 31 = .ok (.aload_n 0, 1) := by decide +kernel
theorem dX9_lays_32 : decode cX9_lays 32 = .ok (.sipush 407, 3) := by decide +kernel
theorem dX9_lays_35 : decode cX9_lays 35 = .ok (.iload_n 1, 1) := by decide +kernel
theorem dX9_lays_36 : decode cX9_lays 36 = .ok (.iadd, 1) := by decide +kernel
theorem dX9_lays_37 : decode cX9_lays 37 = .ok (.iload_n 2, 1) := by decide +kernel
theorem dX9_lays_38 : decode cX9_lays 38 = .ok (.ifCond .ge 7, 3) := by decide +kernel
theorem dX9_lays_41 : decode cX9_lays 41 = .ok (.iconst (-1), 1) := by decide +kernel
theorem dX9_lays_42 : decode cX9_lays 42 = .ok (.goto 26, 3) := by decide +kernel
theorem dX9_lays_45 : decode cX9_lays 45 = .ok (.aload_n 0, 1) := by decide +kernel
theorem dX9_lays_46 : decode cX9_lays 46 = .ok (.sipush 231, 3) := by decide +kernel
theorem dX9_lays_49 : decode cX9_lays 49 = .ok (.iload_n 1, 1) := by decide +kernel
theorem dX9_lays_50 : decode cX9_lays 50 = .ok (.iadd, 1) := by decide +kernel
theorem dX9_lays_51 : decode cX9_lays 51 = .ok (.invokevirtual 85, 3) := by decide +kernel
theorem dX9_lays_54 : decode cX9_lays 54 = .ok (.aload_n 0, 1) := by decide +kernel
theorem dX9_lays_55 : decode cX9_lays 55 = .ok (.iload_n 2, 1) := by decide +kernel
theorem dX9_lays_56 : decode cX9_lays 56 = .ok (.invokevirtual 93, 3) := by decide +kernel
theorem dX9_lays_59 : decode cX9_lays 59 = .ok (.idiv, 1) := by decide +kernel
theorem dX9_lays_60 : decode cX9_lays 60 = .ok (.aload_n 0, 1) := by decide +kernel
theorem dX9_lays_61 : decode cX9_lays 61 = .ok (.iconst 1, 1) := by decide +kernel
theorem dX9_lays_62 : decode cX9_lays 62 = .ok (.iload_n 2, 1) := by decide +kernel
theorem dX9_lays_63 : decode cX9_lays 63 = .ok (.iadd, 1) := by decide +kernel
theorem dX9_lays_64 : decode cX9_lays 64 = .ok (.invokevirtual 85, 3) := by decide +kernel
theorem dX9_lays_67 : decode cX9_lays 67 = .ok (.irem, 1) := by decide +kernel
theorem dX9_lays_68 : decode cX9_lays 68 = .ok (.invokevirtual 76, 3) := by decide +kernel
theorem dX9_lays_71 : decode cX9_lays 71 = .ok (.return_, 1) := by decide +kernel
theorem dX9_laysAll_0 : decode cX9_laysAll 0 = .ok (.iconst 0, 1) := by decide +kernel
theorem dX9_laysAll_1 : decode cX9_laysAll 1 = .ok (.istore_n 1, 1) := by decide +kernel
theorem dX9_laysAll_2 : decode cX9_laysAll 2 = .ok (.iload_n 1, 1) := by decide +kernel
theorem dX9_laysAll_3 : decode cX9_laysAll 3 = .ok (.bipush 16, 2) := by decide +kernel
theorem dX9_laysAll_5 : decode cX9_laysAll 5 = .ok (.if_icmp .ge 22, 3) := by decide +kernel
theorem dX9_laysAll_8 : decode cX9_laysAll 8 = .ok (.aload_n 0, 1) := by decide +kernel
theorem dX9_laysAll_9 : decode cX9_laysAll 9 = .ok (.iload_n 1, 1) := by decide +kernel
theorem dX9_laysAll_10 : decode cX9_laysAll 10 = .ok (.invokevirtual 99, 3) := by decide +kernel
theorem dX9_laysAll_13 : decode cX9_laysAll 13 = .ok (.ifCond .eq 8, 3) := by decide +kernel
theorem dX9_laysAll_16 : decode cX9_laysAll 16 = .ok (.aload_n 0, 1) := by decide +kernel
theorem dX9_laysAll_17 : decode cX9_laysAll 17 = .ok (.iload_n 1, 1) := by decide +kernel
theorem dX9_laysAll_18 : decode cX9_laysAll 18 = .ok (.invokevirtual 102, 3) := by decide +kernel
theorem dX9_laysAll_21 : decode cX9_laysAll 21 = .ok (.iinc 1 1, 3) := by decide +kernel
theorem dX9_laysAll_24 : decode cX9_laysAll 24 = .ok (.goto (-22), 3) := by decide +kernel
theorem dX9_laysAll_27 : decode cX9_laysAll 27 = .ok (.return_, 1) := by decide +kernel
theorem dX9_moves1_0 : decode cX9_moves1 0 = .ok (.aload_n 0, 1) := by decide +kernel
theorem dX9_moves1_1 : decode cX9_moves1 1 = .ok (.iload_n 1, 1) := by decide +kernel
theorem dX9_moves1_2 : decode cX9_moves1 2 = .ok (.invokevirtual 102, 3) := by decide +kernel
theorem dX9_moves1_5 : decode cX9_moves1 5 = .ok (.aload_n 0, 1) := by decide +kernel
theorem dX9_moves1_6 : decode cX9_moves1 6 = .ok (.bipush 8, 2) := by decide +kernel
theorem dX9_moves1_8 : decode cX9_moves1 8 = .ok (.iconst 1, 1) := by decide +kernel
theorem dX9_moves1_9 : decode cX9_moves1 9 = .ok (.invokevirtual 106, 3) := by decide +kernel
theorem dX9_moves1_12 : decode cX9_moves1 12 = .ok (.return_, 1) := by decide +kernel
theorem dX9_isAhead_0 : decode cX9_isAhead 0 = .ok (.aload_n 0, 1) := by decide +kernel
theorem dX9_isAhead_1 : decode cX9_isAhead 1 = .ok (.sipush 247, 3) := by decide +kernel
theorem dX9_isAhead_4 : decode cX9_isAhead 4 = .ok (.iload_n 1, 1) := by decide +kernel
theorem dX9_isAhead_5 : decode cX9_isAhead 5 = .ok (.iadd, 1) := by decide +kernel
theorem dX9_isAhead_6 : decode cX9_isAhead 6 = .ok (.invokevirtual 85, 3) := by decide +kernel
theorem dX9_isAhead_9 : decode cX9_isAhead 9 = .ok (.aload_n 0, 1) := by decide +kernel
theorem dX9_isAhead_10 : decode cX9_isAhead 10 = .ok (.sipush 247, 3) := by decide +kernel
theorem dX9_isAhead_13 : decode cX9_isAhead 13 = .ok (.iload_n 2, 1) := by decide +kernel
theorem dX9_isAhead_14 : decode cX9_isAhead 14 = .ok (.iadd, 1) := by decide +kernel
theorem dX9_isAhead_15 : decode cX9_isAhead 15 = .ok (.invokevirtual 85, 3) := by decide +kernel
theorem dX9_isAhead_18 : decode cX9_isAhead 18 = .ok (.if_icmp .ge 7, 3) := by decide +kernel
theorem dX9_isAhead_21 : decode cX9_isAhead 21 = .ok (.iconst 1, 1) := by decide +kernel
theorem dX9_isAhead_22 : decode cX9_isAhead 22 = .ok (.goto 4, 3) := by decide +kernel
theorem dX9_isAhead_25 : decode cX9_isAhead 25 = .ok (.iconst 0, 1) := by decide +kernel
theorem dX9_isAhead_26 : decode cX9_isAhead 26 = .ok (.istore_n 3, 1) := by decide +kernel
theorem dX9_isAhead_27 : decode cX9_isAhead 27 = .ok (.aload_n 0, 1) := by decide +kernel
theorem dX9_isAhead_28 : decode cX9_isAhead 28 = .ok (.iconst 5, 1) := by decide +kernel
theorem dX9_isAhead_29 : decode cX9_isAhead 29 = .ok (.invokevirtual 85, 3) := by decide +kernel
theorem dX9_isAhead_32 : decode cX9_isAhead 32 = .ok (.lookupswitch 82 #[(0, 28), (1, 30)], 28) := by decide +kernel
theorem dX9_isAhead_60 : decode cX9_isAhead 60 = .ok (.iload_n 3, 1) := by decide +kernel
theorem dX9_isAhead_61 : decode cX9_isAhead 61 = .ok (.ireturn, 1) := by decide +kernel
theorem dX9_isAhead_62 : decode cX9_isAhead 62 = .ok (.aload_n 0, 1) := by decide +kernel
theorem dX9_isAhead_63 : decode cX9_isAhead 63 = .ok (.sipush 263, 3) := by decide +kernel
theorem dX9_isAhead_66 : decode cX9_isAhead 66 = .ok (.iload_n 1, 1) := by decide +kernel
theorem dX9_isAhead_67 : decode cX9_isAhead 67 = .ok (.iadd, 1) := by decide +kernel
theorem dX9_isAhead_68 : decode cX9_isAhead 68 = .ok (.invokevirtual 85, 3) := by decide +kernel
theorem dX9_isAhead_71 : decode cX9_isAhead 71 = .ok (.aload_n 0, 1) := by decide +kernel
theorem dX9_isAhead_72 : decode cX9_isAhead 72 = .ok (.sipush 263, 3) := by decide +kernel
theorem dX9_isAhead_75 : decode cX9_isAhead 75 = .ok (.iload_n 2, 1) := by decide +kernel
theorem dX9_isAhead_76 : decode cX9_isAhead 76 = .ok (.iadd, 1) := by decide +kernel
theorem dX9_isAhead_77 : decode cX9_isAhead 77 = .ok (.invokevirtual 85, 3) := by decide +kernel
theorem dX9_isAhead_80 : decode cX9_isAhead 80 = .ok (.if_icmp .ne 7, 3) := by decide +kernel
theorem dX9_isAhead_83 : decode cX9_isAhead 83 = .ok (.iload_n 3, 1) := by decide +kernel
theorem dX9_isAhead_84 : decode cX9_isAhead 84 = .ok (.goto 29, 3) := by decide +kernel
theorem dX9_isAhead_87 : decode cX9_isAhead 87 = .ok (.aload_n 0, 1) := by decide +kernel
theorem dX9_isAhead_88 : decode cX9_isAhead 88 = .ok (.sipush 263, 3) := by decide +kernel
theorem dX9_isAhead_91 : decode cX9_isAhead 91 = .ok (.iload_n 1, 1) := by decide +kernel
theorem dX9_isAhead_92 : decode cX9_isAhead 92 = .ok (.iadd, 1) := by decide +kernel
theorem dX9_isAhead_93 : decode cX9_isAhead 93 = .ok (.invokevirtual 85, 3) := by decide +kernel
theorem dX9_isAhead_96 : decode cX9_isAhead 96 = .ok (.aload_n 0, 1) := by decide +kernel
theorem dX9_isAhead_97 : decode cX9_isAhead 97 = .ok (.sipush 263, 3) := by decide +kernel
theorem dX9_isAhead_100 : decode cX9_isAhead 100 = .ok (.iload_n 2, 1) := by decide +kernel
theorem dX9_isAhead_101 : decode cX9_isAhead 101 = .ok (.iadd, 1) := by decide +kernel
theorem dX9_isAhead_102 : decode cX9_isAhead 102 = .ok (.invokevirtual 85, 3) := by decide +kernel
theorem dX9_isAhead_105 : decode cX9_isAhead 105 = .ok (.if_icmp .ge 7, 3) := by decide +kernel
theorem dX9_isAhead_108 : decode cX9_isAhead 108 = .ok (.iconst 1, 1) := by decide +kernel
theorem dX9_isAhead_109 : decode cX9_isAhead 109 = .ok (.goto 4, 3) := by decide +kernel
theorem dX9_isAhead_112 : decode cX9_isAhead 112 = .ok (.iconst 0, 1) := by decide +kernel
theorem dX9_isAhead_113 : decode cX9_isAhead 113 = .ok (.ireturn, 1) := by decide +kernel
theorem dX9_isAhead_114 : decode cX9_isAhead 114 = .ok (.iload_n 3, 1) := by decide +kernel
theorem dX9_isAhead_115 : decode cX9_isAhead 115 = .ok (.ifCond .ne 7, 3) := by decide +kernel
theorem dX9_isAhead_118 : decode cX9_isAhead 118 = .ok (.iconst 1, 1) := by decide +kernel
theorem dX9_isAhead_119 : decode cX9_isAhead 119 = .ok (.goto 4, 3) := by decide +kernel
theorem dX9_isAhead_122 : decode cX9_isAhead 122 = .ok (.iconst 0, 1) := by decide +kernel
theorem dX9_isAhead_123 : decode cX9_isAhead 123 = .ok (.ireturn, 1) := by decide +kernel
theorem dX9_queues_0 : decode cX9_queues 0 = .ok (.aload_n 0, 1) := by decide +kernel
theorem dX9_queues_1 : decode cX9_queues 1 = .ok (.getfield 109, 3) := by decide +kernel
theorem dX9_queues_4 : decode cX9_queues 4 = .ok (.istore_n 3, 1) := by decide +kernel
theorem dX9_queues_5 : decode cX9_queues 5 = .ok (.iload_n 3, 1) := by decide +kernel
theorem dX9_queues_6 : decode cX9_queues 6 = .ok (.ifCond .le 40, 3) := by decide +kernel
theorem dX9_queues_9 : decode cX9_queues 9 = .ok (.aload_n 0, 1) := by decide +kernel
theorem dX9_queues_10 : decode cX9_queues 10 = .ok (.iload_n 1, 1) := by decide +kernel
theorem dX9_queues_11 : decode cX9_queues 11 = .ok (.aload_n 0, 1) := by decide +kernel
theorem dX9_queues_12 : decode cX9_queues 12 = .ok (.getfield 52, 3) := by decide +kernel
theorem dX9_queues_15 : decode cX9_queues 15 = .ok (.iload_n 3, 1) := by decide +kernel
theorem dX9_queues_16 : decode cX9_queues 16 = .ok (.iconst 1, 1) := by decide +kernel
theorem dX9_queues_17 : decode cX9_queues 17 = .ok (.isub, 1) := by decide +kernel
theorem dX9_queues_18 : decode cX9_queues 18 = .ok (.iaload, 1) := by decide +kernel
theorem dX9_queues_19 : decode cX9_queues 19 = .ok (.iload_n 2, 1) := by decide +kernel
theorem dX9_queues_20 : decode cX9_queues 20 = .ok (.invokevirtual 112, 3) := by decide +kernel
theorem dX9_queues_23 : decode cX9_queues 23 = .ok (.ifCond .eq 23, 3) := by decide +kernel
theorem dX9_queues_26 : decode cX9_queues 26 = .ok (.aload_n 0, 1) := by decide +kernel
theorem dX9_queues_27 : decode cX9_queues 27 = .ok (.getfield 52, 3) := by decide +kernel
theorem dX9_queues_30 : decode cX9_queues 30 = .ok (.iload_n 3, 1) := by decide +kernel
theorem dX9_queues_31 : decode cX9_queues 31 = .ok (.aload_n 0, 1) := by decide +kernel
theorem dX9_queues_32 : decode cX9_queues 32 = .ok (.getfield 52, 3) := by decide +kernel
theorem dX9_queues_35 : decode cX9_queues 35 = .ok (.iload_n 3, 1) := by decide +kernel
theorem dX9_queues_36 : decode cX9_queues 36 = .ok (.iconst 1, 1) := by decide +kernel
theorem dX9_queues_37 : decode cX9_queues 37 = .ok (.isub, 1) := by decide +kernel
theorem dX9_queues_38 : decode cX9_queues 38 = .ok (.iaload, 1) := by decide +kernel
theorem dX9_queues_39 : decode cX9_queues 39 = .ok (.iastore, 1) := by decide +kernel
theorem dX9_queues_40 : decode cX9_queues 40 = .ok (.iinc 3 (-1), 3) := by decide +kernel
theorem dX9_queues_43 : decode cX9_queues 43 = .ok (.goto (-38), 3) := by decide +kernel
theorem dX9_queues_46 : decode cX9_queues 46 = .ok (.aload_n 0, 1) := by decide +kernel
theorem dX9_queues_47 : decode cX9_queues 47 = .ok (.getfield 52, 3) := by decide +kernel
theorem dX9_queues_50 : decode cX9_queues 50 = .ok (.iload_n 3, 1) := by decide +kernel
theorem dX9_queues_51 : decode cX9_queues 51 = .ok (.iload_n 1, 1) := by decide +kernel
theorem dX9_queues_52 : decode cX9_queues 52 = .ok (.iastore, 1) := by decide +kernel
theorem dX9_queues_53 : decode cX9_queues 53 = .ok (.aload_n 0, 1) := by decide +kernel
theorem dX9_queues_54 : decode cX9_queues 54 = .ok (.dup, 1) := by decide +kernel
theorem dX9_queues_55 : decode cX9_queues 55 = .ok (.getfield 109, 3) := by decide +kernel
theorem dX9_queues_58 : decode cX9_queues 58 = .ok (.iconst 1, 1) := by decide +kernel
theorem dX9_queues_59 : decode cX9_queues 59 = .ok (.iadd, 1) := by decide +kernel
theorem dX9_queues_60 : decode cX9_queues 60 = .ok (.putfield 109, 3) := by decide +kernel
theorem dX9_queues_63 : decode cX9_queues 63 = .ok (.return_, 1) := by decide +kernel
theorem dX9_isSooner_0 : decode cX9_isSooner 0 = .ok (.iload_n 3, 1) := by decide +kernel
theorem dX9_isSooner_1 : decode cX9_isSooner 1 = .ok (.ifCond .eq 51, 3) := by decide +kernel
theorem dX9_isSooner_4 : decode cX9_isSooner 4 = .ok (.aload_n 0, 1) := by decide +kernel
theorem dX9_isSooner_5 : decode cX9_isSooner 5 = .ok (.sipush 231, 3) := by decide +kernel
theorem dX9_isSooner_8 : decode cX9_isSooner 8 = .ok (.iload_n 1, 1) := by decide +kernel
theorem dX9_isSooner_9 : decode cX9_isSooner 9 = .ok (.iadd, 1) := by decide +kernel
theorem dX9_isSooner_10 : decode cX9_isSooner 10 = .ok (.invokevirtual 85, 3) := by decide +kernel
theorem dX9_isSooner_13 : decode cX9_isSooner 13 = .ok (.aload_n 0, 1) := by decide +kernel
theorem dX9_isSooner_14 : decode cX9_isSooner 14 = .ok (.sipush 231, 3) := by decide +kernel
theorem dX9_isSooner_17 : decode cX9_isSooner 17 = .ok (.iload_n 2, 1) := by decide +kernel
theorem dX9_isSooner_18 : decode cX9_isSooner 18 = .ok (.iadd, 1) := by decide +kernel
theorem dX9_isSooner_19 : decode cX9_isSooner 19 = .ok (.invokevirtual 85, 3) := by decide +kernel
theorem dX9_isSooner_22 : decode cX9_isSooner 22 = .ok (.if_icmp .eq 30, 3) := by decide +kernel
theorem dX9_isSooner_25 : decode cX9_isSooner 25 = .ok (.aload_n 0, 1) := by decide +kernel
theorem dX9_isSooner_26 : decode cX9_isSooner 26 = .ok (.sipush 231, 3) := by decide +kernel
theorem dX9_isSooner_29 : decode cX9_isSooner 29 = .ok (.iload_n 1, 1) := by decide +kernel
theorem dX9_isSooner_30 : decode cX9_isSooner 30 = .ok (.iadd, 1) := by decide +kernel
theorem dX9_isSooner_31 : decode cX9_isSooner 31 = .ok (.invokevirtual 85, 3) := by decide +kernel
theorem dX9_isSooner_34 : decode cX9_isSooner 34 = .ok (.aload_n 0, 1) := by decide +kernel
theorem dX9_isSooner_35 : decode cX9_isSooner 35 = .ok (.sipush 231, 3) := by decide +kernel
theorem dX9_isSooner_38 : decode cX9_isSooner 38 = .ok (.iload_n 2, 1) := by decide +kernel
theorem dX9_isSooner_39 : decode cX9_isSooner 39 = .ok (.iadd, 1) := by decide +kernel
theorem dX9_isSooner_40 : decode cX9_isSooner 40 = .ok (.invokevirtual 85, 3) := by decide +kernel
theorem dX9_isSooner_43 : decode cX9_isSooner 43 = .ok (.if_icmp .ge 7, 3) := by decide +kernel
theorem dX9_isSooner_46 : decode cX9_isSooner 46 = .ok (.iconst 1, 1) := by decide +kernel
theorem dX9_isSooner_47 : decode cX9_isSooner 47 = .ok (.goto 4, 3) := by decide +kernel
theorem dX9_isSooner_50 : decode cX9_isSooner 50 = .ok (.iconst 0, 1) := by decide +kernel
theorem dX9_isSooner_51 : decode cX9_isSooner 51 = .ok (.ireturn, 1) := by decide +kernel
theorem dX9_isSooner_52 : decode cX9_isSooner 52 = .ok (.aload_n 0, 1) := by decide +kernel
theorem dX9_isSooner_53 : decode cX9_isSooner 53 = .ok (.iload_n 1, 1) := by decide +kernel
theorem dX9_isSooner_54 : decode cX9_isSooner 54 = .ok (.iload_n 2, 1) := by decide +kernel
theorem dX9_isSooner_55 : decode cX9_isSooner 55 = .ok (.invokevirtual 116, 3) := by decide +kernel
theorem dX9_isSooner_58 : decode cX9_isSooner 58 = .ok (.ireturn, 1) := by decide +kernel
theorem dX9_keepsRung_0 : decode cX9_keepsRung 0 = .ok (.aload_n 0, 1) := by decide +kernel
theorem dX9_keepsRung_1 : decode cX9_keepsRung 1 = .ok (.bipush 14, 2) := by decide +kernel
theorem dX9_keepsRung_3 : decode cX9_keepsRung 3 = .ok (.invokevirtual 85, 3) := by decide +kernel
theorem dX9_keepsRung_6 : decode cX9_keepsRung 6 = .ok (.bipush 40, 2) := by decide +kernel
theorem dX9_keepsRung_8 : decode cX9_keepsRung 8 = .ok (.if_icmp .ne 43, 3) := by decide +kernel
theorem dX9_keepsRung_11 : decode cX9_keepsRung 11 = .ok (.iconst 0, 1) := by decide +kernel
theorem dX9_keepsRung_12 : decode cX9_keepsRung 12 = .ok (.istore_n 2, 1) := by decide +kernel
theorem dX9_keepsRung_13 : decode cX9_keepsRung 13 = .ok (.iload_n 2, 1) := by decide +kernel
theorem dX9_keepsRung_14 : decode cX9_keepsRung 14 = .ok (.sipush 195, 3) := by decide +kernel
theorem dX9_keepsRung_17 : decode cX9_keepsRung 17 = .ok (.if_icmp .ge 27, 3) := by decide +kernel
theorem dX9_keepsRung_20 : decode cX9_keepsRung 20 = .ok (.aload_n 0, 1) := by decide +kernel
theorem dX9_keepsRung_21 : decode cX9_keepsRung 21 = .ok (.bipush 15, 2) := by decide +kernel
theorem dX9_keepsRung_23 : decode cX9_keepsRung 23 = .ok (.iload_n 2, 1) := by decide +kernel
theorem dX9_keepsRung_24 : decode cX9_keepsRung 24 = .ok (.iadd, 1) := by decide +kernel
theorem dX9_keepsRung_25 : decode cX9_keepsRung 25 = .ok (.aload_n 0, 1) := by decide +kernel
theorem dX9_keepsRung_26 : decode cX9_keepsRung 26 = .ok (.bipush 15, 2) := by decide +kernel
theorem dX9_keepsRung_28 : decode cX9_keepsRung 28 = .ok (.iload_n 2, 1) := by decide +kernel
theorem dX9_keepsRung_29 : decode cX9_keepsRung 29 = .ok (.iadd, 1) := by decide +kernel
theorem dX9_keepsRung_30 : decode cX9_keepsRung 30 = .ok (.iconst 5, 1) := by decide +kernel
theorem dX9_keepsRung_31 : decode cX9_keepsRung 31 = .ok (.iadd, 1) := by decide +kernel
theorem dX9_keepsRung_32 : decode cX9_keepsRung 32 = .ok (.invokevirtual 85, 3) := by decide +kernel
theorem dX9_keepsRung_35 : decode cX9_keepsRung 35 = .ok (.invokevirtual 76, 3) := by decide +kernel
theorem dX9_keepsRung_38 : decode cX9_keepsRung 38 = .ok (.iinc 2 1, 3) := by decide +kernel
theorem dX9_keepsRung_41 : decode cX9_keepsRung 41 = .ok (.goto (-28), 3) := by decide +kernel
theorem dX9_keepsRung_44 : decode cX9_keepsRung 44 = .ok (.aload_n 0, 1) := by decide +kernel
theorem dX9_keepsRung_45 : decode cX9_keepsRung 45 = .ok (.bipush 14, 2) := by decide +kernel
theorem dX9_keepsRung_47 : decode cX9_keepsRung 47 = .ok (.iconst (-1), 1) := by decide +kernel
theorem dX9_keepsRung_48 : decode cX9_keepsRung 48 = .ok (.invokevirtual 106, 3) := by decide +kernel
theorem dX9_keepsRung_51 : decode cX9_keepsRung 51 = .ok (.bipush 15, 2) := by decide +kernel
theorem dX9_keepsRung_53 : decode cX9_keepsRung 53 = .ok (.iconst 5, 1) := by decide +kernel
theorem dX9_keepsRung_54 : decode cX9_keepsRung 54 = .ok (.aload_n 0, 1) := by decide +kernel
theorem dX9_keepsRung_55 : decode cX9_keepsRung 55 = .ok (.bipush 14, 2) := by decide +kernel
theorem dX9_keepsRung_57 : decode cX9_keepsRung 57 = .ok (.invokevirtual 85, 3) := by decide +kernel
theorem dX9_keepsRung_60 : decode cX9_keepsRung 60 = .ok (.imul, 1) := by decide +kernel
theorem dX9_keepsRung_61 : decode cX9_keepsRung 61 = .ok (.iadd, 1) := by decide +kernel
theorem dX9_keepsRung_62 : decode cX9_keepsRung 62 = .ok (.istore_n 2, 1) := by decide +kernel
theorem dX9_keepsRung_63 : decode cX9_keepsRung 63 = .ok (.aload_n 0, 1) := by decide +kernel
theorem dX9_keepsRung_64 : decode cX9_keepsRung 64 = .ok (.iload_n 2, 1) := by decide +kernel
theorem dX9_keepsRung_65 : decode cX9_keepsRung 65 = .ok (.iload_n 1, 1) := by decide +kernel
theorem dX9_keepsRung_66 : decode cX9_keepsRung 66 = .ok (.invokevirtual 76, 3) := by decide +kernel
theorem dX9_keepsRung_69 : decode cX9_keepsRung 69 = .ok (.aload_n 0, 1) := by decide +kernel
theorem dX9_keepsRung_70 : decode cX9_keepsRung 70 = .ok (.iload_n 2, 1) := by decide +kernel
theorem dX9_keepsRung_71 : decode cX9_keepsRung 71 = .ok (.iconst 1, 1) := by decide +kernel
theorem dX9_keepsRung_72 : decode cX9_keepsRung 72 = .ok (.iadd, 1) := by decide +kernel
theorem dX9_keepsRung_73 : decode cX9_keepsRung 73 = .ok (.aload_n 0, 1) := by decide +kernel
theorem dX9_keepsRung_74 : decode cX9_keepsRung 74 = .ok (.bipush 6, 2) := by decide +kernel
theorem dX9_keepsRung_76 : decode cX9_keepsRung 76 = .ok (.invokevirtual 85, 3) := by decide +kernel
theorem dX9_keepsRung_79 : decode cX9_keepsRung 79 = .ok (.invokevirtual 76, 3) := by decide +kernel
theorem dX9_keepsRung_82 : decode cX9_keepsRung 82 = .ok (.aload_n 0, 1) := by decide +kernel
theorem dX9_keepsRung_83 : decode cX9_keepsRung 83 = .ok (.iload_n 2, 1) := by decide +kernel
theorem dX9_keepsRung_84 : decode cX9_keepsRung 84 = .ok (.iconst 2, 1) := by decide +kernel
theorem dX9_keepsRung_85 : decode cX9_keepsRung 85 = .ok (.iadd, 1) := by decide +kernel
theorem dX9_keepsRung_86 : decode cX9_keepsRung 86 = .ok (.aload_n 0, 1) := by decide +kernel
theorem dX9_keepsRung_87 : decode cX9_keepsRung 87 = .ok (.sipush 231, 3) := by decide +kernel
theorem dX9_keepsRung_90 : decode cX9_keepsRung 90 = .ok (.iload_n 1, 1) := by decide +kernel
theorem dX9_keepsRung_91 : decode cX9_keepsRung 91 = .ok (.iadd, 1) := by decide +kernel
theorem dX9_keepsRung_92 : decode cX9_keepsRung 92 = .ok (.invokevirtual 85, 3) := by decide +kernel
theorem dX9_keepsRung_95 : decode cX9_keepsRung 95 = .ok (.invokevirtual 76, 3) := by decide +kernel
theorem dX9_keepsRung_98 : decode cX9_keepsRung 98 = .ok (.aload_n 0, 1) := by decide +kernel
theorem dX9_keepsRung_99 : decode cX9_keepsRung 99 = .ok (.iload_n 2, 1) := by decide +kernel
theorem dX9_keepsRung_100 : decode cX9_keepsRung 100 = .ok (.iconst 3, 1) := by decide +kernel
theorem dX9_keepsRung_101 : decode cX9_keepsRung 101 = .ok (.iadd, 1) := by decide +kernel
theorem dX9_keepsRung_102 : decode cX9_keepsRung 102 = .ok (.aload_n 0, 1) := by decide +kernel
theorem dX9_keepsRung_103 : decode cX9_keepsRung 103 = .ok (.sipush 263, 3) := by decide +kernel
theorem dX9_keepsRung_106 : decode cX9_keepsRung 106 = .ok (.iload_n 1, 1) := by decide +kernel
theorem dX9_keepsRung_107 : decode cX9_keepsRung 107 = .ok (.iadd, 1) := by decide +kernel
theorem dX9_keepsRung_108 : decode cX9_keepsRung 108 = .ok (.invokevirtual 85, 3) := by decide +kernel
theorem dX9_keepsRung_111 : decode cX9_keepsRung 111 = .ok (.invokevirtual 76, 3) := by decide +kernel
theorem dX9_keepsRung_114 : decode cX9_keepsRung 114 = .ok (.aload_n 0, 1) := by decide +kernel
theorem dX9_keepsRung_115 : decode cX9_keepsRung 115 = .ok (.iload_n 2, 1) := by decide +kernel
theorem dX9_keepsRung_116 : decode cX9_keepsRung 116 = .ok (.iconst 4, 1) := by decide +kernel
theorem dX9_keepsRung_117 : decode cX9_keepsRung 117 = .ok (.iadd, 1) := by decide +kernel
theorem dX9_keepsRung_118 : decode cX9_keepsRung 118 = .ok (.aload_n 0, 1) := by decide +kernel
theorem dX9_keepsRung_119 : decode cX9_keepsRung 119 = .ok (.sipush 375, 3) := by decide +kernel
theorem dX9_keepsRung_122 : decode cX9_keepsRung 122 = .ok (.iload_n 1, 1) := by decide +kernel
theorem dX9_keepsRung_123 : decode cX9_keepsRung 123 = .ok (.iadd, 1) := by decide +kernel
theorem dX9_keepsRung_124 : decode cX9_keepsRung 124 = .ok (.invokevirtual 85, 3) := by decide +kernel
theorem dX9_keepsRung_127 : decode cX9_keepsRung 127 = .ok (.invokevirtual 76, 3) := by decide +kernel
theorem dX9_keepsRung_130 : decode cX9_keepsRung 130 = .ok (.aload_n 0, 1) := by decide +kernel
theorem dX9_keepsRung_131 : decode cX9_keepsRung 131 = .ok (.bipush 14, 2) := by decide +kernel
theorem dX9_keepsRung_133 : decode cX9_keepsRung 133 = .ok (.iconst 1, 1) := by decide +kernel
theorem dX9_keepsRung_134 : decode cX9_keepsRung 134 = .ok (.invokevirtual 106, 3) := by decide +kernel
theorem dX9_keepsRung_137 : decode cX9_keepsRung 137 = .ok (.return_, 1) := by decide +kernel
theorem dX9_comesAgain_0 : decode cX9_comesAgain 0 = .ok (.aload_n 0, 1) := by decide +kernel
theorem dX9_comesAgain_1 : decode cX9_comesAgain 1 = .ok (.sipush 279, 3) := by decide +kernel
theorem dX9_comesAgain_4 : decode cX9_comesAgain 4 = .ok (.iload_n 1, 1) := by decide +kernel
theorem dX9_comesAgain_5 : decode cX9_comesAgain 5 = .ok (.iadd, 1) := by decide +kernel
theorem dX9_comesAgain_6 : decode cX9_comesAgain 6 = .ok (.invokevirtual 85, 3) := by decide +kernel
theorem dX9_comesAgain_9 : decode cX9_comesAgain 9 = .ok (.istore_n 2, 1) := by decide +kernel
theorem dX9_comesAgain_10 : decode cX9_comesAgain 10 = .ok (.aload_n 0, 1) := by decide +kernel
theorem dX9_comesAgain_11 : decode cX9_comesAgain 11 = .ok (.sipush 311, 3) := by decide +kernel
theorem dX9_comesAgain_14 : decode cX9_comesAgain 14 = .ok (.iload_n 1, 1) := by decide +kernel
theorem dX9_comesAgain_15 : decode cX9_comesAgain 15 = .ok (.iadd, 1) := by decide +kernel
theorem dX9_comesAgain_16 : decode cX9_comesAgain 16 = .ok (.invokevirtual 85, 3) := by decide +kernel
theorem dX9_comesAgain_19 : decode cX9_comesAgain 19 = .ok (.iconst 1, 1) := by decide +kernel
theorem dX9_comesAgain_20 : decode cX9_comesAgain 20 = .ok (.if_icmp .eq 7, 3) := by decide +kernel
theorem dX9_comesAgain_23 : decode cX9_comesAgain 23 = .ok (.iload_n 2, 1) := by decide +kernel
theorem dX9_comesAgain_24 : decode cX9_comesAgain 24 = .ok (.ifCond .ne 14, 3) := by decide +kernel
theorem dX9_comesAgain_27 : decode cX9_comesAgain 27 = .ok (.aload_n 0, 1) := by decide +kernel
theorem dX9_comesAgain_28 : decode cX9_comesAgain 28 = .ok (.sipush 215, 3) := by decide +kernel
theorem dX9_comesAgain_31 : decode cX9_comesAgain 31 = .ok (.iload_n 1, 1) := by decide +kernel
theorem dX9_comesAgain_32 : decode cX9_comesAgain 32 = .ok (.iadd, 1) := by decide +kernel
theorem dX9_comesAgain_33 : decode cX9_comesAgain 33 = .ok (.iconst 0, 1) := by decide +kernel
theorem dX9_comesAgain_34 : decode cX9_comesAgain 34 = .ok (.invokevirtual 76, 3) := by decide +kernel
theorem dX9_comesAgain_37 : decode cX9_comesAgain 37 = .ok (.return_, 1) := by decide +kernel
theorem dX9_comesAgain_38 : decode cX9_comesAgain 38 = .ok (.aload_n 0, 1) := by decide +kernel
theorem dX9_comesAgain_39 : decode cX9_comesAgain 39 = .ok (.sipush 311, 3) := by decide +kernel
theorem dX9_comesAgain_42 : decode cX9_comesAgain 42 = .ok (.iload_n 1, 1) := by decide +kernel
theorem dX9_comesAgain_43 : decode cX9_comesAgain 43 = .ok (.iadd, 1) := by decide +kernel
theorem dX9_comesAgain_44 : decode cX9_comesAgain 44 = .ok (.invokevirtual 85, 3) := by decide +kernel
theorem dX9_comesAgain_47 : decode cX9_comesAgain 47 = .ok (.ifCond .le 13, 3) := by decide +kernel
theorem dX9_comesAgain_50 : decode cX9_comesAgain 50 = .ok (.aload_n 0, 1) := by decide +kernel
theorem dX9_comesAgain_51 : decode cX9_comesAgain 51 = .ok (.sipush 311, 3) := by decide +kernel
theorem dX9_comesAgain_54 : decode cX9_comesAgain 54 = .ok (.iload_n 1, 1) := by decide +kernel
theorem dX9_comesAgain_55 : decode cX9_comesAgain 55 = .ok (.iadd, 1) := by decide +kernel
theorem dX9_comesAgain_56 : decode cX9_comesAgain 56 = .ok (.iconst (-1), 1) := by decide +kernel
theorem dX9_comesAgain_57 : decode cX9_comesAgain 57 = .ok (.invokevirtual 106, 3) := by decide +kernel
theorem dX9_comesAgain_60 : decode cX9_comesAgain 60 = .ok (.iload_n 2, 1) := by decide +kernel
theorem dX9_comesAgain_61 : decode cX9_comesAgain 61 = .ok (.iconst 1, 1) := by decide +kernel
theorem dX9_comesAgain_62 : decode cX9_comesAgain 62 = .ok (.if_icmp .ne 64, 3) := by decide +kernel
theorem dX9_comesAgain_65 : decode cX9_comesAgain 65 = .ok (.aload_n 0, 1) := by decide +kernel
theorem dX9_comesAgain_66 : decode cX9_comesAgain 66 = .ok (.bipush 6, 2) := by decide +kernel
theorem dX9_comesAgain_68 : decode cX9_comesAgain 68 = .ok (.invokevirtual 85, 3) := by decide +kernel
theorem dX9_comesAgain_71 : decode cX9_comesAgain 71 = .ok (.aload_n 0, 1) := by decide +kernel
theorem dX9_comesAgain_72 : decode cX9_comesAgain 72 = .ok (.sipush 231, 3) := by decide +kernel
theorem dX9_comesAgain_75 : decode cX9_comesAgain 75 = .ok (.iload_n 1, 1) := by decide +kernel
theorem dX9_comesAgain_76 : decode cX9_comesAgain 76 = .ok (.iadd, 1) := by decide +kernel
theorem dX9_comesAgain_77 : decode cX9_comesAgain 77 = .ok (.invokevirtual 85, 3) := by decide +kernel
theorem dX9_comesAgain_80 : decode cX9_comesAgain 80 = .ok (.isub, 1) := by decide +kernel
theorem dX9_comesAgain_81 : decode cX9_comesAgain 81 = .ok (.aload_n 0, 1) := by decide +kernel
theorem dX9_comesAgain_82 : decode cX9_comesAgain 82 = .ok (.sipush 295, 3) := by decide +kernel
theorem dX9_comesAgain_85 : decode cX9_comesAgain 85 = .ok (.iload_n 1, 1) := by decide +kernel
theorem dX9_comesAgain_86 : decode cX9_comesAgain 86 = .ok (.iadd, 1) := by decide +kernel
theorem dX9_comesAgain_87 : decode cX9_comesAgain 87 = .ok (.invokevirtual 85, 3) := by decide +kernel
theorem dX9_comesAgain_90 : decode cX9_comesAgain 90 = .ok (.idiv, 1) := by decide +kernel
theorem dX9_comesAgain_91 : decode cX9_comesAgain 91 = .ok (.iconst 1, 1) := by decide +kernel
theorem dX9_comesAgain_92 : decode cX9_comesAgain 92 = .ok (.iadd, 1) := by decide +kernel
theorem dX9_comesAgain_93 : decode cX9_comesAgain 93 = .ok (.istore_n 3, 1) := by decide +kernel
theorem dX9_comesAgain_94 : decode cX9_comesAgain 94 = .ok (.aload_n 0, 1) := by decide +kernel
theorem dX9_comesAgain_95 : decode cX9_comesAgain 95 = .ok (.sipush 231, 3) := by decide +kernel
theorem dX9_comesAgain_98 : decode cX9_comesAgain 98 = .ok (.iload_n 1, 1) := by decide +kernel
theorem dX9_comesAgain_99 : decode cX9_comesAgain 99 = .ok (.iadd, 1) := by decide +kernel
theorem dX9_comesAgain_100 : decode cX9_comesAgain 100 = .ok (.iload_n 3, 1) := by decide +kernel
theorem dX9_comesAgain_101 : decode cX9_comesAgain 101 = .ok (.aload_n 0, 1) := by decide +kernel
theorem dX9_comesAgain_102 : decode cX9_comesAgain 102 = .ok (.sipush 295, 3) := by decide +kernel
theorem dX9_comesAgain_105 : decode cX9_comesAgain 105 = .ok (.iload_n 1, 1) := by decide +kernel
theorem dX9_comesAgain_106 : decode cX9_comesAgain 106 = .ok (.iadd, 1) := by decide +kernel
theorem dX9_comesAgain_107 : decode cX9_comesAgain 107 = .ok (.invokevirtual 85, 3) := by decide +kernel
theorem dX9_comesAgain_110 : decode cX9_comesAgain 110 = .ok (.imul, 1) := by decide +kernel
theorem dX9_comesAgain_111 : decode cX9_comesAgain 111 = .ok (.invokevirtual 106, 3) := by decide +kernel
theorem dX9_comesAgain_114 : decode cX9_comesAgain 114 = .ok (.aload_n 0, 1) := by decide +kernel
theorem dX9_comesAgain_115 : decode cX9_comesAgain 115 = .ok (.bipush 9, 2) := by decide +kernel
theorem dX9_comesAgain_117 : decode cX9_comesAgain 117 = .ok (.iload_n 3, 1) := by decide +kernel
theorem dX9_comesAgain_118 : decode cX9_comesAgain 118 = .ok (.iconst 1, 1) := by decide +kernel
theorem dX9_comesAgain_119 : decode cX9_comesAgain 119 = .ok (.isub, 1) := by decide +kernel
theorem dX9_comesAgain_120 : decode cX9_comesAgain 120 = .ok (.invokevirtual 106, 3) := by decide +kernel
theorem dX9_comesAgain_123 : decode cX9_comesAgain 123 = .ok (.goto 71, 3) := by decide +kernel
theorem dX9_comesAgain_126 : decode cX9_comesAgain 126 = .ok (.aload_n 0, 1) := by decide +kernel
theorem dX9_comesAgain_127 : decode cX9_comesAgain 127 = .ok (.sipush 295, 3) := by decide +kernel
theorem dX9_comesAgain_130 : decode cX9_comesAgain 130 = .ok (.iload_n 1, 1) := by decide +kernel
theorem dX9_comesAgain_131 : decode cX9_comesAgain 131 = .ok (.iadd, 1) := by decide +kernel
theorem dX9_comesAgain_132 : decode cX9_comesAgain 132 = .ok (.iload_n 2, 1) := by decide +kernel
theorem dX9_comesAgain_133 : decode cX9_comesAgain 133 = .ok (.iconst 3, 1) := by decide +kernel
theorem dX9_comesAgain_134 : decode cX9_comesAgain 134 = .ok (.if_icmp .ne 23, 3) := by decide +kernel
theorem dX9_comesAgain_137 : decode cX9_comesAgain 137 = .ok (.sipush 1000, 3) := by decide +kernel
theorem dX9_comesAgain_140 : decode cX9_comesAgain 140 = .ok (.iconst 2, 1) := by decide +kernel
theorem dX9_comesAgain_141 : decode cX9_comesAgain 141 = .ok (.aload_n 0, 1) := by decide +kernel
theorem dX9_comesAgain_142 : decode cX9_comesAgain 142 = .ok (.sipush 295, 3) := by decide +kernel
theorem dX9_comesAgain_145 : decode cX9_comesAgain 145 = .ok (.iload_n 1, 1) := by decide +kernel
theorem dX9_comesAgain_146 : decode cX9_comesAgain 146 = .ok (.iadd, 1) := by decide +kernel
theorem dX9_comesAgain_147 : decode cX9_comesAgain 147 = .ok (.invokevirtual 85, 3) := by decide +kernel
theorem dX9_comesAgain_150 : decode cX9_comesAgain 150 = .ok (.imul, 1) := by decide +kernel
theorem dX9_comesAgain_151 : decode cX9_comesAgain 151 = .ok (.invokestatic 120, 3) := by decide +kernel
theorem dX9_comesAgain_154 : decode cX9_comesAgain 154 = .ok (.goto 12, 3) := by decide +kernel
theorem dX9_comesAgain_157 : decode cX9_comesAgain 157 = .ok (.aload_n 0, 1) := by decide +kernel
theorem dX9_comesAgain_158 : decode cX9_comesAgain 158 = .ok (.sipush 295, 3) := by decide +kernel
theorem dX9_comesAgain_161 : decode cX9_comesAgain 161 = .ok (.iload_n 1, 1) := by decide +kernel
theorem dX9_comesAgain_162 : decode cX9_comesAgain 162 = .ok (.iadd, 1) := by decide +kernel
theorem dX9_comesAgain_163 : decode cX9_comesAgain 163 = .ok (.invokevirtual 85, 3) := by decide +kernel
theorem dX9_comesAgain_166 : decode cX9_comesAgain 166 = .ok (.invokevirtual 76, 3) := by decide +kernel
theorem dX9_comesAgain_169 : decode cX9_comesAgain 169 = .ok (.aload_n 0, 1) := by decide +kernel
theorem dX9_comesAgain_170 : decode cX9_comesAgain 170 = .ok (.sipush 231, 3) := by decide +kernel
theorem dX9_comesAgain_173 : decode cX9_comesAgain 173 = .ok (.iload_n 1, 1) := by decide +kernel
theorem dX9_comesAgain_174 : decode cX9_comesAgain 174 = .ok (.iadd, 1) := by decide +kernel
theorem dX9_comesAgain_175 : decode cX9_comesAgain 175 = .ok (.aload_n 0, 1) := by decide +kernel
theorem dX9_comesAgain_176 : decode cX9_comesAgain 176 = .ok (.bipush 6, 2) := by decide +kernel
theorem dX9_comesAgain_178 : decode cX9_comesAgain 178 = .ok (.invokevirtual 85, 3) := by decide +kernel
theorem dX9_comesAgain_181 : decode cX9_comesAgain 181 = .ok (.aload_n 0, 1) := by decide +kernel
theorem dX9_comesAgain_182 : decode cX9_comesAgain 182 = .ok (.sipush 295, 3) := by decide +kernel
theorem dX9_comesAgain_185 : decode cX9_comesAgain 185 = .ok (.iload_n 1, 1) := by decide +kernel
theorem dX9_comesAgain_186 : decode cX9_comesAgain 186 = .ok (.iadd, 1) := by decide +kernel
theorem dX9_comesAgain_187 : decode cX9_comesAgain 187 = .ok (.invokevirtual 85, 3) := by decide +kernel
theorem dX9_comesAgain_190 : decode cX9_comesAgain 190 = .ok (.iadd, 1) := by decide +kernel
theorem dX9_comesAgain_191 : decode cX9_comesAgain 191 = .ok (.invokevirtual 76, 3) := by decide +kernel
theorem dX9_comesAgain_194 : decode cX9_comesAgain 194 = .ok (.aload_n 0, 1) := by decide +kernel
theorem dX9_comesAgain_195 : decode cX9_comesAgain 195 = .ok (.iload_n 1, 1) := by decide +kernel
theorem dX9_comesAgain_196 : decode cX9_comesAgain 196 = .ok (.invokevirtual 102, 3) := by decide +kernel
theorem dX9_comesAgain_199 : decode cX9_comesAgain 199 = .ok (.return_, 1) := by decide +kernel
theorem dX9_ringsAll_0 : decode cX9_ringsAll 0 = .ok (.iconst 0, 1) := by decide +kernel
theorem dX9_ringsAll_1 : decode cX9_ringsAll 1 = .ok (.istore_n 2, 1) := by decide +kernel
theorem dX9_ringsAll_2 : decode cX9_ringsAll 2 = .ok (.iload_n 2, 1) := by decide +kernel
theorem dX9_ringsAll_3 : decode cX9_ringsAll 3 = .ok (.aload_n 0, 1) := by decide +kernel
theorem dX9_ringsAll_4 : decode cX9_ringsAll 4 = .ok (.getfield 109, 3) := by decide +kernel
theorem dX9_ringsAll_7 : decode cX9_ringsAll 7 = .ok (.if_icmp .ge 89, 3) := by decide +kernel
theorem dX9_ringsAll_10 : decode cX9_ringsAll 10 = .ok (.aload_n 0, 1) := by decide +kernel
theorem dX9_ringsAll_11 : decode cX9_ringsAll 11 = .ok (.getfield 52, 3) := by decide +kernel
theorem dX9_ringsAll_14 : decode cX9_ringsAll 14 = .ok (.iload_n 2, 1) := by decide +kernel
theorem dX9_ringsAll_15 : decode cX9_ringsAll 15 = .ok (.iaload, 1) := by decide +kernel
theorem dX9_ringsAll_16 : decode cX9_ringsAll 16 = .ok (.istore_n 3, 1) := by decide +kernel
theorem dX9_ringsAll_17 : decode cX9_ringsAll 17 = .ok (.aload_n 0, 1) := by decide +kernel
theorem dX9_ringsAll_18 : decode cX9_ringsAll 18 = .ok (.sipush 375, 3) := by decide +kernel
theorem dX9_ringsAll_21 : decode cX9_ringsAll 21 = .ok (.iload_n 3, 1) := by decide +kernel
theorem dX9_ringsAll_22 : decode cX9_ringsAll 22 = .ok (.iadd, 1) := by decide +kernel
theorem dX9_ringsAll_23 : decode cX9_ringsAll 23 = .ok (.iconst 1, 1) := by decide +kernel
theorem dX9_ringsAll_24 : decode cX9_ringsAll 24 = .ok (.invokevirtual 106, 3) := by decide +kernel
theorem dX9_ringsAll_27 : decode cX9_ringsAll 27 = .ok (.aload_n 0, 1) := by decide +kernel
theorem dX9_ringsAll_28 : decode cX9_ringsAll 28 = .ok (.bipush 7, 2) := by decide +kernel
theorem dX9_ringsAll_30 : decode cX9_ringsAll 30 = .ok (.iconst 1, 1) := by decide +kernel
theorem dX9_ringsAll_31 : decode cX9_ringsAll 31 = .ok (.invokevirtual 106, 3) := by decide +kernel
theorem dX9_ringsAll_34 : decode cX9_ringsAll 34 = .ok (.aload_n 0, 1) := by decide +kernel
theorem dX9_ringsAll_35 : decode cX9_ringsAll 35 = .ok (.iload_n 3, 1) := by decide +kernel
theorem dX9_ringsAll_36 : decode cX9_ringsAll 36 = .ok (.invokevirtual 126, 3) := by decide +kernel
theorem dX9_ringsAll_39 : decode cX9_ringsAll 39 = .ok (.aload_n 0, 1) := by decide +kernel
theorem dX9_ringsAll_40 : decode cX9_ringsAll 40 = .ok (.getfield 55, 3) := by decide +kernel
theorem dX9_ringsAll_43 : decode cX9_ringsAll 43 = .ok (.aload_n 0, 1) := by decide +kernel
theorem dX9_ringsAll_44 : decode cX9_ringsAll 44 = .ok (.getfield 129, 3) := by decide +kernel
theorem dX9_ringsAll_47 : decode cX9_ringsAll 47 = .ok (.iload_n 3, 1) := by decide +kernel
theorem dX9_ringsAll_48 : decode cX9_ringsAll 48 = .ok (.iastore, 1) := by decide +kernel
theorem dX9_ringsAll_49 : decode cX9_ringsAll 49 = .ok (.aload_n 0, 1) := by decide +kernel
theorem dX9_ringsAll_50 : decode cX9_ringsAll 50 = .ok (.getfield 58, 3) := by decide +kernel
theorem dX9_ringsAll_53 : decode cX9_ringsAll 53 = .ok (.aload_n 0, 1) := by decide +kernel
theorem dX9_ringsAll_54 : decode cX9_ringsAll 54 = .ok (.getfield 129, 3) := by decide +kernel
theorem dX9_ringsAll_57 : decode cX9_ringsAll 57 = .ok (.iload_n 1, 1) := by decide +kernel
theorem dX9_ringsAll_58 : decode cX9_ringsAll 58 = .ok (.ifCond .eq 15, 3) := by decide +kernel
theorem dX9_ringsAll_61 : decode cX9_ringsAll 61 = .ok (.aload_n 0, 1) := by decide +kernel
theorem dX9_ringsAll_62 : decode cX9_ringsAll 62 = .ok (.sipush 231, 3) := by decide +kernel
theorem dX9_ringsAll_65 : decode cX9_ringsAll 65 = .ok (.iload_n 3, 1) := by decide +kernel
theorem dX9_ringsAll_66 : decode cX9_ringsAll 66 = .ok (.iadd, 1) := by decide +kernel
theorem dX9_ringsAll_67 : decode cX9_ringsAll 67 = .ok (.invokevirtual 85, 3) := by decide +kernel
theorem dX9_ringsAll_70 : decode cX9_ringsAll 70 = .ok (.goto 9, 3) := by decide +kernel
theorem dX9_ringsAll_73 : decode cX9_ringsAll 73 = .ok (.aload_n 0, 1) := by decide +kernel
theorem dX9_ringsAll_74 : decode cX9_ringsAll 74 = .ok (.bipush 6, 2) := by decide +kernel
theorem dX9_ringsAll_76 : decode cX9_ringsAll 76 = .ok (.invokevirtual 85, 3) := by decide +kernel
theorem dX9_ringsAll_79 : decode cX9_ringsAll 79 = .ok (.iastore, 1) := by decide +kernel
theorem dX9_ringsAll_80 : decode cX9_ringsAll 80 = .ok (.aload_n 0, 1) := by decide +kernel
theorem dX9_ringsAll_81 : decode cX9_ringsAll 81 = .ok (.dup, 1) := by decide +kernel
theorem dX9_ringsAll_82 : decode cX9_ringsAll 82 = .ok (.getfield 129, 3) := by decide +kernel
theorem dX9_ringsAll_85 : decode cX9_ringsAll 85 = .ok (.iconst 1, 1) := by decide +kernel
theorem dX9_ringsAll_86 : decode cX9_ringsAll 86 = .ok (.iadd, 1) := by decide +kernel
theorem dX9_ringsAll_87 : decode cX9_ringsAll 87 = .ok (.putfield 129, 3) := by decide +kernel
theorem dX9_ringsAll_90 : decode cX9_ringsAll 90 = .ok (.iinc 2 1, 3) := by decide +kernel
theorem dX9_ringsAll_93 : decode cX9_ringsAll 93 = .ok (.goto (-91), 3) := by decide +kernel
theorem dX9_ringsAll_96 : decode cX9_ringsAll 96 = .ok (.iconst 0, 1) := by decide +kernel
theorem dX9_ringsAll_97 : decode cX9_ringsAll 97 = .ok (.istore_n 2, 1) := by decide +kernel
theorem dX9_ringsAll_98 : decode cX9_ringsAll 98 = .ok (.iload_n 2, 1) := by decide +kernel
theorem dX9_ringsAll_99 : decode cX9_ringsAll 99 = .ok (.aload_n 0, 1) := by decide +kernel
theorem dX9_ringsAll_100 : decode cX9_ringsAll 100 = .ok (.getfield 109, 3) := by decide +kernel
theorem dX9_ringsAll_103 : decode cX9_ringsAll 103 = .ok (.if_icmp .ge 19, 3) := by decide +kernel
theorem dX9_ringsAll_106 : decode cX9_ringsAll 106 = .ok (.aload_n 0, 1) := by decide +kernel
theorem dX9_ringsAll_107 : decode cX9_ringsAll 107 = .ok (.aload_n 0, 1) := by decide +kernel
theorem dX9_ringsAll_108 : decode cX9_ringsAll 108 = .ok (.getfield 52, 3) := by decide +kernel
theorem dX9_ringsAll_111 : decode cX9_ringsAll 111 = .ok (.iload_n 2, 1) := by decide +kernel
theorem dX9_ringsAll_112 : decode cX9_ringsAll 112 = .ok (.iaload, 1) := by decide +kernel
theorem dX9_ringsAll_113 : decode cX9_ringsAll 113 = .ok (.invokevirtual 132, 3) := by decide +kernel
theorem dX9_ringsAll_116 : decode cX9_ringsAll 116 = .ok (.iinc 2 1, 3) := by decide +kernel
theorem dX9_ringsAll_119 : decode cX9_ringsAll 119 = .ok (.goto (-21), 3) := by decide +kernel
theorem dX9_ringsAll_122 : decode cX9_ringsAll 122 = .ok (.return_, 1) := by decide +kernel
theorem dX9_tick_0 : decode cX9_tick 0 = .ok (.aload_n 0, 1) := by decide +kernel
theorem dX9_tick_1 : decode cX9_tick 1 = .ok (.bipush 6, 2) := by decide +kernel
theorem dX9_tick_3 : decode cX9_tick 3 = .ok (.iconst 1, 1) := by decide +kernel
theorem dX9_tick_4 : decode cX9_tick 4 = .ok (.invokevirtual 106, 3) := by decide +kernel
theorem dX9_tick_7 : decode cX9_tick 7 = .ok (.aload_n 0, 1) := by decide +kernel
theorem dX9_tick_8 : decode cX9_tick 8 = .ok (.bipush 6, 2) := by decide +kernel
theorem dX9_tick_10 : decode cX9_tick 10 = .ok (.invokevirtual 85, 3) := by decide +kernel
theorem dX9_tick_13 : decode cX9_tick 13 = .ok (.istore_n 1, 1) := by decide +kernel
theorem dX9_tick_14 : decode cX9_tick 14 = .ok (.iload_n 1, 1) := by decide +kernel
theorem dX9_tick_15 : decode cX9_tick 15 = .ok (.aload_n 0, 1) := by decide +kernel
theorem dX9_tick_16 : decode cX9_tick 16 = .ok (.invokevirtual 135, 3) := by decide +kernel
theorem dX9_tick_19 : decode cX9_tick 19 = .ok (.irem, 1) := by decide +kernel
theorem dX9_tick_20 : decode cX9_tick 20 = .ok (.ifCond .ne 61, 3) := by decide +kernel
theorem dX9_tick_23 : decode cX9_tick 23 = .ok (.iconst 0, 1) := by decide +kernel
theorem dX9_tick_24 : decode cX9_tick 24 = .ok (.istore_n 2, 1) := by decide +kernel
theorem dX9_tick_25 : decode cX9_tick 25 = .ok (.iload_n 2, 1) := by decide +kernel
theorem dX9_tick_26 : decode cX9_tick 26 = .ok (.bipush 16, 2) := by decide +kernel
theorem dX9_tick_28 : decode cX9_tick 28 = .ok (.if_icmp .ge 53, 3) := by decide +kernel
theorem dX9_tick_31 : decode cX9_tick 31 = .ok (.aload_n 0, 1) := by decide +kernel
theorem dX9_tick_32 : decode cX9_tick 32 = .ok (.iload_n 2, 1) := by decide +kernel
theorem dX9_tick_33 : decode cX9_tick 33 = .ok (.invokevirtual 99, 3) := by decide +kernel
theorem dX9_tick_36 : decode cX9_tick 36 = .ok (.ifCond .eq 39, 3) := by decide +kernel
theorem dX9_tick_39 : decode cX9_tick 39 = .ok (.aload_n 0, 1) := by decide +kernel
theorem dX9_tick_40 : decode cX9_tick 40 = .ok (.sipush 391, 3) := by decide +kernel
theorem dX9_tick_43 : decode cX9_tick 43 = .ok (.iload_n 2, 1) := by decide +kernel
theorem dX9_tick_44 : decode cX9_tick 44 = .ok (.iadd, 1) := by decide +kernel
theorem dX9_tick_45 : decode cX9_tick 45 = .ok (.invokevirtual 85, 3) := by decide +kernel
theorem dX9_tick_48 : decode cX9_tick 48 = .ok (.iconst (-1), 1) := by decide +kernel
theorem dX9_tick_49 : decode cX9_tick 49 = .ok (.if_icmp .ne 26, 3) := by decide +kernel
theorem dX9_tick_52 : decode cX9_tick 52 = .ok (.aload_n 0, 1) := by decide +kernel
theorem dX9_tick_53 : decode cX9_tick 53 = .ok (.sipush 231, 3) := by decide +kernel
theorem dX9_tick_56 : decode cX9_tick 56 = .ok (.iload_n 2, 1) := by decide +kernel
theorem dX9_tick_57 : decode cX9_tick 57 = .ok (.iadd, 1) := by decide +kernel
theorem dX9_tick_58 : decode cX9_tick 58 = .ok (.invokevirtual 85, 3) := by decide +kernel
theorem dX9_tick_61 : decode cX9_tick 61 = .ok (.iload_n 1, 1) := by decide +kernel
theorem dX9_tick_62 : decode cX9_tick 62 = .ok (.isub, 1) := by decide +kernel
theorem dX9_tick_63 : decode cX9_tick 63 = .ok (.aload_n 0, 1) := by decide +kernel
theorem dX9_tick_64 : decode cX9_tick 64 = .ok (.invokevirtual 135, 3) := by decide +kernel
theorem dX9_tick_67 : decode cX9_tick 67 = .ok (.if_icmp .ge 8, 3) := by decide +kernel
theorem dX9_tick_70 : decode cX9_tick 70 = .ok (.aload_n 0, 1) := by decide +kernel
theorem dX9_tick_71 : decode cX9_tick 71 = .ok (.iload_n 2, 1) := by decide +kernel
theorem dX9_tick_72 : decode cX9_tick 72 = .ok (.invokevirtual 139, 3) := by decide +kernel
theorem dX9_tick_75 : decode cX9_tick 75 = .ok (.iinc 2 1, 3) := by decide +kernel
theorem dX9_tick_78 : decode cX9_tick 78 = .ok (.goto (-53), 3) := by decide +kernel
theorem dX9_tick_81 : decode cX9_tick 81 = .ok (.aload_n 0, 1) := by decide +kernel
theorem dX9_tick_82 : decode cX9_tick 82 = .ok (.iconst 0, 1) := by decide +kernel
theorem dX9_tick_83 : decode cX9_tick 83 = .ok (.invokevirtual 85, 3) := by decide +kernel
theorem dX9_tick_86 : decode cX9_tick 86 = .ok (.iconst 1, 1) := by decide +kernel
theorem dX9_tick_87 : decode cX9_tick 87 = .ok (.isub, 1) := by decide +kernel
theorem dX9_tick_88 : decode cX9_tick 88 = .ok (.istore_n 2, 1) := by decide +kernel
theorem dX9_tick_89 : decode cX9_tick 89 = .ok (.iload_n 2, 1) := by decide +kernel
theorem dX9_tick_90 : decode cX9_tick 90 = .ok (.ifCond .le 94, 3) := by decide +kernel
theorem dX9_tick_93 : decode cX9_tick 93 = .ok (.iload_n 1, 1) := by decide +kernel
theorem dX9_tick_94 : decode cX9_tick 94 = .ok (.aload_n 0, 1) := by decide +kernel
theorem dX9_tick_95 : decode cX9_tick 95 = .ok (.iload_n 2, 1) := by decide +kernel
theorem dX9_tick_96 : decode cX9_tick 96 = .ok (.invokevirtual 93, 3) := by decide +kernel
theorem dX9_tick_99 : decode cX9_tick 99 = .ok (.irem, 1) := by decide +kernel
theorem dX9_tick_100 : decode cX9_tick 100 = .ok (.ifCond .ne 78, 3) := by decide +kernel
theorem dX9_tick_103 : decode cX9_tick 103 = .ok (.iload_n 1, 1) := by decide +kernel
theorem dX9_tick_104 : decode cX9_tick 104 = .ok (.aload_n 0, 1) := by decide +kernel
theorem dX9_tick_105 : decode cX9_tick 105 = .ok (.iload_n 2, 1) := by decide +kernel
theorem dX9_tick_106 : decode cX9_tick 106 = .ok (.invokevirtual 93, 3) := by decide +kernel
theorem dX9_tick_109 : decode cX9_tick 109 = .ok (.idiv, 1) := by decide +kernel
theorem dX9_tick_110 : decode cX9_tick 110 = .ok (.aload_n 0, 1) := by decide +kernel
theorem dX9_tick_111 : decode cX9_tick 111 = .ok (.iconst 1, 1) := by decide +kernel
theorem dX9_tick_112 : decode cX9_tick 112 = .ok (.iload_n 2, 1) := by decide +kernel
theorem dX9_tick_113 : decode cX9_tick 113 = .ok (.iadd, 1) := by decide +kernel
theorem dX9_tick_114 : decode cX9_tick 114 = .ok (.invokevirtual 85, 3) := by decide +kernel
theorem dX9_tick_117 : decode cX9_tick 117 = .ok (.irem, 1) := by decide +kernel
theorem dX9_tick_118 : decode cX9_tick 118 = .ok (.istore_n 3, 1) := by decide +kernel
theorem dX9_tick_119 : decode cX9_tick 119 = .ok (.iconst 0, 1) := by decide +kernel
theorem dX9_tick_120 : decode cX9_tick 120 = .ok (.istore 4, 2) := by decide +kernel
theorem dX9_tick_122 : decode cX9_tick 122 = .ok (.iload 4, 2) := by decide +kernel
theorem dX9_tick_124 : decode cX9_tick 124 = .ok (.bipush 16, 2) := by decide +kernel
theorem dX9_tick_126 : decode cX9_tick 126 = .ok (.if_icmp .ge 52, 3) := by decide +kernel
theorem dX9_tick_129 : decode cX9_tick 129 = .ok (.aload_n 0, 1) := by decide +kernel
theorem dX9_tick_130 : decode cX9_tick 130 = .ok (.iload 4, 2) := by decide +kernel
theorem dX9_tick_132 : decode cX9_tick 132 = .ok (.invokevirtual 99, 3) := by decide +kernel
theorem dX9_tick_135 : decode cX9_tick 135 = .ok (.ifCond .eq 37, 3) := by decide +kernel
theorem dX9_tick_138 : decode cX9_tick 138 = .ok (.aload_n 0, 1) := by decide +kernel
theorem dX9_tick_139 : decode cX9_tick 139 = .ok (.sipush 391, 3) := by decide +kernel
theorem dX9_tick_142 : decode cX9_tick 142 = .ok (.iload 4, 2) := by decide +kernel
theorem dX9_tick_144 : decode cX9_tick 144 = .ok (.iadd, 1) := by decide +kernel
theorem dX9_tick_145 : decode cX9_tick 145 = .ok (.invokevirtual 85, 3) := by decide +kernel
theorem dX9_tick_148 : decode cX9_tick 148 = .ok (.iload_n 2, 1) := by decide +kernel
theorem dX9_tick_149 : decode cX9_tick 149 = .ok (.if_icmp .ne 23, 3) := by decide +kernel
theorem dX9_tick_152 : decode cX9_tick 152 = .ok (.aload_n 0, 1) := by decide +kernel
theorem dX9_tick_153 : decode cX9_tick 153 = .ok (.sipush 407, 3) := by decide +kernel
theorem dX9_tick_156 : decode cX9_tick 156 = .ok (.iload 4, 2) := by decide +kernel
theorem dX9_tick_158 : decode cX9_tick 158 = .ok (.iadd, 1) := by decide +kernel
theorem dX9_tick_159 : decode cX9_tick 159 = .ok (.invokevirtual 85, 3) := by decide +kernel
theorem dX9_tick_162 : decode cX9_tick 162 = .ok (.iload_n 3, 1) := by decide +kernel
theorem dX9_tick_163 : decode cX9_tick 163 = .ok (.if_icmp .ne 9, 3) := by decide +kernel
theorem dX9_tick_166 : decode cX9_tick 166 = .ok (.aload_n 0, 1) := by decide +kernel
theorem dX9_tick_167 : decode cX9_tick 167 = .ok (.iload 4, 2) := by decide +kernel
theorem dX9_tick_169 : decode cX9_tick 169 = .ok (.invokevirtual 139, 3) := by decide +kernel
theorem dX9_tick_172 : decode cX9_tick 172 = .ok (.iinc 4 1, 3) := by decide +kernel
theorem dX9_tick_175 : decode cX9_tick 175 = .ok (.goto (-53), 3) := by decide +kernel
theorem dX9_tick_178 : decode cX9_tick 178 = .ok (.iinc 2 (-1), 3) := by decide +kernel
theorem dX9_tick_181 : decode cX9_tick 181 = .ok (.goto (-92), 3) := by decide +kernel
theorem dX9_tick_184 : decode cX9_tick 184 = .ok (.aload_n 0, 1) := by decide +kernel
theorem dX9_tick_185 : decode cX9_tick 185 = .ok (.iconst 0, 1) := by decide +kernel
theorem dX9_tick_186 : decode cX9_tick 186 = .ok (.putfield 109, 3) := by decide +kernel
theorem dX9_tick_189 : decode cX9_tick 189 = .ok (.iconst 0, 1) := by decide +kernel
theorem dX9_tick_190 : decode cX9_tick 190 = .ok (.istore_n 2, 1) := by decide +kernel
theorem dX9_tick_191 : decode cX9_tick 191 = .ok (.iload_n 2, 1) := by decide +kernel
theorem dX9_tick_192 : decode cX9_tick 192 = .ok (.bipush 16, 2) := by decide +kernel
theorem dX9_tick_194 : decode cX9_tick 194 = .ok (.if_icmp .ge 54, 3) := by decide +kernel
theorem dX9_tick_197 : decode cX9_tick 197 = .ok (.aload_n 0, 1) := by decide +kernel
theorem dX9_tick_198 : decode cX9_tick 198 = .ok (.iload_n 2, 1) := by decide +kernel
theorem dX9_tick_199 : decode cX9_tick 199 = .ok (.invokevirtual 99, 3) := by decide +kernel
theorem dX9_tick_202 : decode cX9_tick 202 = .ok (.ifCond .eq 40, 3) := by decide +kernel
theorem dX9_tick_205 : decode cX9_tick 205 = .ok (.aload_n 0, 1) := by decide +kernel
theorem dX9_tick_206 : decode cX9_tick 206 = .ok (.sipush 391, 3) := by decide +kernel
theorem dX9_tick_209 : decode cX9_tick 209 = .ok (.iload_n 2, 1) := by decide +kernel
theorem dX9_tick_210 : decode cX9_tick 210 = .ok (.iadd, 1) := by decide +kernel
theorem dX9_tick_211 : decode cX9_tick 211 = .ok (.invokevirtual 85, 3) := by decide +kernel
theorem dX9_tick_214 : decode cX9_tick 214 = .ok (.ifCond .ne 28, 3) := by decide +kernel
theorem dX9_tick_217 : decode cX9_tick 217 = .ok (.aload_n 0, 1) := by decide +kernel
theorem dX9_tick_218 : decode cX9_tick 218 = .ok (.sipush 407, 3) := by decide +kernel
theorem dX9_tick_221 : decode cX9_tick 221 = .ok (.iload_n 2, 1) := by decide +kernel
theorem dX9_tick_222 : decode cX9_tick 222 = .ok (.iadd, 1) := by decide +kernel
theorem dX9_tick_223 : decode cX9_tick 223 = .ok (.invokevirtual 85, 3) := by decide +kernel
theorem dX9_tick_226 : decode cX9_tick 226 = .ok (.iload_n 1, 1) := by decide +kernel
theorem dX9_tick_227 : decode cX9_tick 227 = .ok (.aload_n 0, 1) := by decide +kernel
theorem dX9_tick_228 : decode cX9_tick 228 = .ok (.iconst 1, 1) := by decide +kernel
theorem dX9_tick_229 : decode cX9_tick 229 = .ok (.invokevirtual 85, 3) := by decide +kernel
theorem dX9_tick_232 : decode cX9_tick 232 = .ok (.irem, 1) := by decide +kernel
theorem dX9_tick_233 : decode cX9_tick 233 = .ok (.if_icmp .ne 9, 3) := by decide +kernel
theorem dX9_tick_236 : decode cX9_tick 236 = .ok (.aload_n 0, 1) := by decide +kernel
theorem dX9_tick_237 : decode cX9_tick 237 = .ok (.iload_n 2, 1) := by decide +kernel
theorem dX9_tick_238 : decode cX9_tick 238 = .ok (.iconst 0, 1) := by decide +kernel
theorem dX9_tick_239 : decode cX9_tick 239 = .ok (.invokevirtual 142, 3) := by decide +kernel
theorem dX9_tick_242 : decode cX9_tick 242 = .ok (.iinc 2 1, 3) := by decide +kernel
theorem dX9_tick_245 : decode cX9_tick 245 = .ok (.goto (-54), 3) := by decide +kernel
theorem dX9_tick_248 : decode cX9_tick 248 = .ok (.aload_n 0, 1) := by decide +kernel
theorem dX9_tick_249 : decode cX9_tick 249 = .ok (.iconst 0, 1) := by decide +kernel
theorem dX9_tick_250 : decode cX9_tick 250 = .ok (.invokevirtual 146, 3) := by decide +kernel
theorem dX9_tick_253 : decode cX9_tick 253 = .ok (.return_, 1) := by decide +kernel
theorem dX9_tellsLatest_0 : decode cX9_tellsLatest 0 = .ok (.aload_n 0, 1) := by decide +kernel
theorem dX9_tellsLatest_1 : decode cX9_tellsLatest 1 = .ok (.iconst 0, 1) := by decide +kernel
theorem dX9_tellsLatest_2 : decode cX9_tellsLatest 2 = .ok (.putfield 11, 3) := by decide +kernel
theorem dX9_tellsLatest_5 : decode cX9_tellsLatest 5 = .ok (.iconst 0, 1) := by decide +kernel
theorem dX9_tellsLatest_6 : decode cX9_tellsLatest 6 = .ok (.aload_n 0, 1) := by decide +kernel
theorem dX9_tellsLatest_7 : decode cX9_tellsLatest 7 = .ok (.getfield 129, 3) := by decide +kernel
theorem dX9_tellsLatest_10 : decode cX9_tellsLatest 10 = .ok (.bipush 20, 2) := by decide +kernel
theorem dX9_tellsLatest_12 : decode cX9_tellsLatest 12 = .ok (.isub, 1) := by decide +kernel
theorem dX9_tellsLatest_13 : decode cX9_tellsLatest 13 = .ok (.invokestatic 150, 3) := by decide +kernel
theorem dX9_tellsLatest_16 : decode cX9_tellsLatest 16 = .ok (.istore_n 1, 1) := by decide +kernel
theorem dX9_tellsLatest_17 : decode cX9_tellsLatest 17 = .ok (.iload_n 1, 1) := by decide +kernel
theorem dX9_tellsLatest_18 : decode cX9_tellsLatest 18 = .ok (.aload_n 0, 1) := by decide +kernel
theorem dX9_tellsLatest_19 : decode cX9_tellsLatest 19 = .ok (.getfield 129, 3) := by decide +kernel
theorem dX9_tellsLatest_22 : decode cX9_tellsLatest 22 = .ok (.if_icmp .ge 31, 3) := by decide +kernel
theorem dX9_tellsLatest_25 : decode cX9_tellsLatest 25 = .ok (.aload_n 0, 1) := by decide +kernel
theorem dX9_tellsLatest_26 : decode cX9_tellsLatest 26 = .ok (.aload_n 0, 1) := by decide +kernel
theorem dX9_tellsLatest_27 : decode cX9_tellsLatest 27 = .ok (.getfield 55, 3) := by decide +kernel
theorem dX9_tellsLatest_30 : decode cX9_tellsLatest 30 = .ok (.iload_n 1, 1) := by decide +kernel
theorem dX9_tellsLatest_31 : decode cX9_tellsLatest 31 = .ok (.iaload, 1) := by decide +kernel
end
section
theorem dX9_tellsLatest_32 : decode cX9_tellsLatest 32 = .ok (.i2l, 1) := by decide +kernel
theorem dX9_tellsLatest_33 : decode cX9_tellsLatest 33 = .ok (.invokevirtual 153, 3) := by decide +kernel
theorem dX9_tellsLatest_36 : decode cX9_tellsLatest 36 = .ok (.aload_n 0, 1) := by decide +kernel
theorem dX9_tellsLatest_37 : decode cX9_tellsLatest 37 = .ok (.aload_n 0, 1) := by decide +kernel
theorem dX9_tellsLatest_38 : decode cX9_tellsLatest 38 = .ok (.getfield 58, 3) := by decide +kernel
theorem dX9_tellsLatest_41 : decode cX9_tellsLatest 41 = .ok (.iload_n 1, 1) := by decide +kernel
theorem dX9_tellsLatest_42 : decode cX9_tellsLatest 42 = .ok (.iaload, 1) := by decide +kernel
theorem dX9_tellsLatest_43 : decode cX9_tellsLatest 43 = .ok (.i2l, 1) := by decide +kernel
theorem dX9_tellsLatest_44 : decode cX9_tellsLatest 44 = .ok (.invokevirtual 153, 3) := by decide +kernel
theorem dX9_tellsLatest_47 : decode cX9_tellsLatest 47 = .ok (.iinc 1 1, 3) := by decide +kernel
theorem dX9_tellsLatest_50 : decode cX9_tellsLatest 50 = .ok (.goto (-33), 3) := by decide +kernel
theorem dX9_tellsLatest_53 : decode cX9_tellsLatest 53 = .ok (.return_, 1) := by decide +kernel
theorem dX9_tellsFirst_0 : decode cX9_tellsFirst 0 = .ok (.aload_n 0, 1) := by decide +kernel
theorem dX9_tellsFirst_1 : decode cX9_tellsFirst 1 = .ok (.iconst 0, 1) := by decide +kernel
theorem dX9_tellsFirst_2 : decode cX9_tellsFirst 2 = .ok (.putfield 11, 3) := by decide +kernel
theorem dX9_tellsFirst_5 : decode cX9_tellsFirst 5 = .ok (.iconst 0, 1) := by decide +kernel
theorem dX9_tellsFirst_6 : decode cX9_tellsFirst 6 = .ok (.istore_n 1, 1) := by decide +kernel
theorem dX9_tellsFirst_7 : decode cX9_tellsFirst 7 = .ok (.iload_n 1, 1) := by decide +kernel
theorem dX9_tellsFirst_8 : decode cX9_tellsFirst 8 = .ok (.aload_n 0, 1) := by decide +kernel
theorem dX9_tellsFirst_9 : decode cX9_tellsFirst 9 = .ok (.getfield 129, 3) := by decide +kernel
theorem dX9_tellsFirst_12 : decode cX9_tellsFirst 12 = .ok (.bipush 20, 2) := by decide +kernel
theorem dX9_tellsFirst_14 : decode cX9_tellsFirst 14 = .ok (.invokestatic 120, 3) := by decide +kernel
theorem dX9_tellsFirst_17 : decode cX9_tellsFirst 17 = .ok (.if_icmp .ge 31, 3) := by decide +kernel
theorem dX9_tellsFirst_20 : decode cX9_tellsFirst 20 = .ok (.aload_n 0, 1) := by decide +kernel
theorem dX9_tellsFirst_21 : decode cX9_tellsFirst 21 = .ok (.aload_n 0, 1) := by decide +kernel
theorem dX9_tellsFirst_22 : decode cX9_tellsFirst 22 = .ok (.getfield 55, 3) := by decide +kernel
theorem dX9_tellsFirst_25 : decode cX9_tellsFirst 25 = .ok (.iload_n 1, 1) := by decide +kernel
theorem dX9_tellsFirst_26 : decode cX9_tellsFirst 26 = .ok (.iaload, 1) := by decide +kernel
theorem dX9_tellsFirst_27 : decode cX9_tellsFirst 27 = .ok (.i2l, 1) := by decide +kernel
theorem dX9_tellsFirst_28 : decode cX9_tellsFirst 28 = .ok (.invokevirtual 153, 3) := by decide +kernel
theorem dX9_tellsFirst_31 : decode cX9_tellsFirst 31 = .ok (.aload_n 0, 1) := by decide +kernel
theorem dX9_tellsFirst_32 : decode cX9_tellsFirst 32 = .ok (.aload_n 0, 1) := by decide +kernel
theorem dX9_tellsFirst_33 : decode cX9_tellsFirst 33 = .ok (.getfield 58, 3) := by decide +kernel
theorem dX9_tellsFirst_36 : decode cX9_tellsFirst 36 = .ok (.iload_n 1, 1) := by decide +kernel
theorem dX9_tellsFirst_37 : decode cX9_tellsFirst 37 = .ok (.iaload, 1) := by decide +kernel
theorem dX9_tellsFirst_38 : decode cX9_tellsFirst 38 = .ok (.i2l, 1) := by decide +kernel
theorem dX9_tellsFirst_39 : decode cX9_tellsFirst 39 = .ok (.invokevirtual 153, 3) := by decide +kernel
theorem dX9_tellsFirst_42 : decode cX9_tellsFirst 42 = .ok (.iinc 1 1, 3) := by decide +kernel
theorem dX9_tellsFirst_45 : decode cX9_tellsFirst 45 = .ok (.goto (-38), 3) := by decide +kernel
theorem dX9_tellsFirst_48 : decode cX9_tellsFirst 48 = .ok (.return_, 1) := by decide +kernel
theorem dX9_ticksOf_0 : decode cX9_ticksOf 0 = .ok (.aload_n 0, 1) := by decide +kernel
theorem dX9_ticksOf_1 : decode cX9_ticksOf 1 = .ok (.bipush 6, 2) := by decide +kernel
theorem dX9_ticksOf_3 : decode cX9_ticksOf 3 = .ok (.invokevirtual 85, 3) := by decide +kernel
theorem dX9_ticksOf_6 : decode cX9_ticksOf 6 = .ok (.iload_n 1, 1) := by decide +kernel
theorem dX9_ticksOf_7 : decode cX9_ticksOf 7 = .ok (.iadd, 1) := by decide +kernel
theorem dX9_ticksOf_8 : decode cX9_ticksOf 8 = .ok (.ldc 157, 2) := by decide +kernel
theorem dX9_ticksOf_10 : decode cX9_ticksOf 10 = .ok (.if_icmp .le 6, 3) := by decide +kernel
theorem dX9_ticksOf_13 : decode cX9_ticksOf 13 = .ok (.bipush (-4), 2) := by decide +kernel
theorem dX9_ticksOf_15 : decode cX9_ticksOf 15 = .ok (.ireturn, 1) := by decide +kernel
theorem dX9_ticksOf_16 : decode cX9_ticksOf 16 = .ok (.aload_n 0, 1) := by decide +kernel
theorem dX9_ticksOf_17 : decode cX9_ticksOf 17 = .ok (.iconst 0, 1) := by decide +kernel
theorem dX9_ticksOf_18 : decode cX9_ticksOf 18 = .ok (.putfield 129, 3) := by decide +kernel
theorem dX9_ticksOf_21 : decode cX9_ticksOf 21 = .ok (.iconst 0, 1) := by decide +kernel
theorem dX9_ticksOf_22 : decode cX9_ticksOf 22 = .ok (.istore_n 2, 1) := by decide +kernel
theorem dX9_ticksOf_23 : decode cX9_ticksOf 23 = .ok (.iload_n 2, 1) := by decide +kernel
theorem dX9_ticksOf_24 : decode cX9_ticksOf 24 = .ok (.iload_n 1, 1) := by decide +kernel
theorem dX9_ticksOf_25 : decode cX9_ticksOf 25 = .ok (.if_icmp .ge 13, 3) := by decide +kernel
theorem dX9_ticksOf_28 : decode cX9_ticksOf 28 = .ok (.aload_n 0, 1) := by decide +kernel
theorem dX9_ticksOf_29 : decode cX9_ticksOf 29 = .ok (.invokevirtual 158, 3) := by decide +kernel
theorem dX9_ticksOf_32 : decode cX9_ticksOf 32 = .ok (.iinc 2 1, 3) := by decide +kernel
theorem dX9_ticksOf_35 : decode cX9_ticksOf 35 = .ok (.goto (-12), 3) := by decide +kernel
theorem dX9_ticksOf_38 : decode cX9_ticksOf 38 = .ok (.aload_n 0, 1) := by decide +kernel
theorem dX9_ticksOf_39 : decode cX9_ticksOf 39 = .ok (.getfield 129, 3) := by decide +kernel
theorem dX9_ticksOf_42 : decode cX9_ticksOf 42 = .ok (.ireturn, 1) := by decide +kernel
theorem dX9_leapsBy_0 : decode cX9_leapsBy 0 = .ok (.aload_n 0, 1) := by decide +kernel
theorem dX9_leapsBy_1 : decode cX9_leapsBy 1 = .ok (.bipush 6, 2) := by decide +kernel
theorem dX9_leapsBy_3 : decode cX9_leapsBy 3 = .ok (.invokevirtual 85, 3) := by decide +kernel
theorem dX9_leapsBy_6 : decode cX9_leapsBy 6 = .ok (.i2l, 1) := by decide +kernel
theorem dX9_leapsBy_7 : decode cX9_leapsBy 7 = .ok (.iload_n 1, 1) := by decide +kernel
theorem dX9_leapsBy_8 : decode cX9_leapsBy 8 = .ok (.i2l, 1) := by decide +kernel
theorem dX9_leapsBy_9 : decode cX9_leapsBy 9 = .ok (.ladd, 1) := by decide +kernel
theorem dX9_leapsBy_10 : decode cX9_leapsBy 10 = .ok (.lconst 0, 1) := by decide +kernel
theorem dX9_leapsBy_11 : decode cX9_leapsBy 11 = .ok (.ldc2_w 161, 3) := by decide +kernel
theorem dX9_leapsBy_14 : decode cX9_leapsBy 14 = .ok (.invokestatic 21, 3) := by decide +kernel
theorem dX9_leapsBy_17 : decode cX9_leapsBy 17 = .ok (.ifCond .ne 6, 3) := by decide +kernel
theorem dX9_leapsBy_20 : decode cX9_leapsBy 20 = .ok (.bipush (-4), 2) := by decide +kernel
theorem dX9_leapsBy_22 : decode cX9_leapsBy 22 = .ok (.ireturn, 1) := by decide +kernel
theorem dX9_leapsBy_23 : decode cX9_leapsBy 23 = .ok (.aload_n 0, 1) := by decide +kernel
theorem dX9_leapsBy_24 : decode cX9_leapsBy 24 = .ok (.iconst 0, 1) := by decide +kernel
theorem dX9_leapsBy_25 : decode cX9_leapsBy 25 = .ok (.putfield 129, 3) := by decide +kernel
theorem dX9_leapsBy_28 : decode cX9_leapsBy 28 = .ok (.aload_n 0, 1) := by decide +kernel
theorem dX9_leapsBy_29 : decode cX9_leapsBy 29 = .ok (.bipush 6, 2) := by decide +kernel
theorem dX9_leapsBy_31 : decode cX9_leapsBy 31 = .ok (.iload_n 1, 1) := by decide +kernel
theorem dX9_leapsBy_32 : decode cX9_leapsBy 32 = .ok (.invokevirtual 106, 3) := by decide +kernel
theorem dX9_leapsBy_35 : decode cX9_leapsBy 35 = .ok (.aload_n 0, 1) := by decide +kernel
theorem dX9_leapsBy_36 : decode cX9_leapsBy 36 = .ok (.bipush 7, 2) := by decide +kernel
theorem dX9_leapsBy_38 : decode cX9_leapsBy 38 = .ok (.iload_n 1, 1) := by decide +kernel
theorem dX9_leapsBy_39 : decode cX9_leapsBy 39 = .ok (.ifCond .le 7, 3) := by decide +kernel
theorem dX9_leapsBy_42 : decode cX9_leapsBy 42 = .ok (.iconst 4, 1) := by decide +kernel
theorem dX9_leapsBy_43 : decode cX9_leapsBy 43 = .ok (.goto 4, 3) := by decide +kernel
theorem dX9_leapsBy_46 : decode cX9_leapsBy 46 = .ok (.iconst 5, 1) := by decide +kernel
theorem dX9_leapsBy_47 : decode cX9_leapsBy 47 = .ok (.iadd, 1) := by decide +kernel
theorem dX9_leapsBy_48 : decode cX9_leapsBy 48 = .ok (.iload_n 1, 1) := by decide +kernel
theorem dX9_leapsBy_49 : decode cX9_leapsBy 49 = .ok (.invokestatic 163, 3) := by decide +kernel
theorem dX9_leapsBy_52 : decode cX9_leapsBy 52 = .ok (.invokevirtual 106, 3) := by decide +kernel
theorem dX9_leapsBy_55 : decode cX9_leapsBy 55 = .ok (.aload_n 0, 1) := by decide +kernel
theorem dX9_leapsBy_56 : decode cX9_leapsBy 56 = .ok (.iconst 0, 1) := by decide +kernel
theorem dX9_leapsBy_57 : decode cX9_leapsBy 57 = .ok (.putfield 109, 3) := by decide +kernel
theorem dX9_leapsBy_60 : decode cX9_leapsBy 60 = .ok (.iconst 0, 1) := by decide +kernel
theorem dX9_leapsBy_61 : decode cX9_leapsBy 61 = .ok (.istore_n 2, 1) := by decide +kernel
theorem dX9_leapsBy_62 : decode cX9_leapsBy 62 = .ok (.iload_n 2, 1) := by decide +kernel
theorem dX9_leapsBy_63 : decode cX9_leapsBy 63 = .ok (.bipush 16, 2) := by decide +kernel
theorem dX9_leapsBy_65 : decode cX9_leapsBy 65 = .ok (.if_icmp .ge 70, 3) := by decide +kernel
theorem dX9_leapsBy_68 : decode cX9_leapsBy 68 = .ok (.aload_n 0, 1) := by decide +kernel
theorem dX9_leapsBy_69 : decode cX9_leapsBy 69 = .ok (.iload_n 2, 1) := by decide +kernel
theorem dX9_leapsBy_70 : decode cX9_leapsBy 70 = .ok (.invokevirtual 99, 3) := by decide +kernel
theorem dX9_leapsBy_73 : decode cX9_leapsBy 73 = .ok (.ifCond .ne 6, 3) := by decide +kernel
theorem dX9_leapsBy_76 : decode cX9_leapsBy 76 = .ok (.goto 53, 3) := by decide +kernel
theorem dX9_leapsBy_79 : decode cX9_leapsBy 79 = .ok (.aload_n 0, 1) := by decide +kernel
theorem dX9_leapsBy_80 : decode cX9_leapsBy 80 = .ok (.sipush 327, 3) := by decide +kernel
theorem dX9_leapsBy_83 : decode cX9_leapsBy 83 = .ok (.iload_n 2, 1) := by decide +kernel
theorem dX9_leapsBy_84 : decode cX9_leapsBy 84 = .ok (.iadd, 1) := by decide +kernel
theorem dX9_leapsBy_85 : decode cX9_leapsBy 85 = .ok (.invokevirtual 85, 3) := by decide +kernel
theorem dX9_leapsBy_88 : decode cX9_leapsBy 88 = .ok (.iconst 1, 1) := by decide +kernel
theorem dX9_leapsBy_89 : decode cX9_leapsBy 89 = .ok (.if_icmp .ne 16, 3) := by decide +kernel
theorem dX9_leapsBy_92 : decode cX9_leapsBy 92 = .ok (.aload_n 0, 1) := by decide +kernel
theorem dX9_leapsBy_93 : decode cX9_leapsBy 93 = .ok (.sipush 231, 3) := by decide +kernel
theorem dX9_leapsBy_96 : decode cX9_leapsBy 96 = .ok (.iload_n 2, 1) := by decide +kernel
theorem dX9_leapsBy_97 : decode cX9_leapsBy 97 = .ok (.iadd, 1) := by decide +kernel
theorem dX9_leapsBy_98 : decode cX9_leapsBy 98 = .ok (.iload_n 1, 1) := by decide +kernel
theorem dX9_leapsBy_99 : decode cX9_leapsBy 99 = .ok (.invokevirtual 106, 3) := by decide +kernel
theorem dX9_leapsBy_102 : decode cX9_leapsBy 102 = .ok (.goto 27, 3) := by decide +kernel
theorem dX9_leapsBy_105 : decode cX9_leapsBy 105 = .ok (.aload_n 0, 1) := by decide +kernel
theorem dX9_leapsBy_106 : decode cX9_leapsBy 106 = .ok (.sipush 231, 3) := by decide +kernel
theorem dX9_leapsBy_109 : decode cX9_leapsBy 109 = .ok (.iload_n 2, 1) := by decide +kernel
theorem dX9_leapsBy_110 : decode cX9_leapsBy 110 = .ok (.iadd, 1) := by decide +kernel
theorem dX9_leapsBy_111 : decode cX9_leapsBy 111 = .ok (.invokevirtual 85, 3) := by decide +kernel
theorem dX9_leapsBy_114 : decode cX9_leapsBy 114 = .ok (.aload_n 0, 1) := by decide +kernel
theorem dX9_leapsBy_115 : decode cX9_leapsBy 115 = .ok (.bipush 6, 2) := by decide +kernel
theorem dX9_leapsBy_117 : decode cX9_leapsBy 117 = .ok (.invokevirtual 85, 3) := by decide +kernel
theorem dX9_leapsBy_120 : decode cX9_leapsBy 120 = .ok (.if_icmp .gt 9, 3) := by decide +kernel
theorem dX9_leapsBy_123 : decode cX9_leapsBy 123 = .ok (.aload_n 0, 1) := by decide +kernel
theorem dX9_leapsBy_124 : decode cX9_leapsBy 124 = .ok (.iload_n 2, 1) := by decide +kernel
theorem dX9_leapsBy_125 : decode cX9_leapsBy 125 = .ok (.iconst 1, 1) := by decide +kernel
theorem dX9_leapsBy_126 : decode cX9_leapsBy 126 = .ok (.invokevirtual 142, 3) := by decide +kernel
theorem dX9_leapsBy_129 : decode cX9_leapsBy 129 = .ok (.iinc 2 1, 3) := by decide +kernel
theorem dX9_leapsBy_132 : decode cX9_leapsBy 132 = .ok (.goto (-70), 3) := by decide +kernel
theorem dX9_leapsBy_135 : decode cX9_leapsBy 135 = .ok (.aload_n 0, 1) := by decide +kernel
theorem dX9_leapsBy_136 : decode cX9_leapsBy 136 = .ok (.iconst 1, 1) := by decide +kernel
theorem dX9_leapsBy_137 : decode cX9_leapsBy 137 = .ok (.invokevirtual 146, 3) := by decide +kernel
theorem dX9_leapsBy_140 : decode cX9_leapsBy 140 = .ok (.aload_n 0, 1) := by decide +kernel
theorem dX9_leapsBy_141 : decode cX9_leapsBy 141 = .ok (.invokevirtual 166, 3) := by decide +kernel
theorem dX9_leapsBy_144 : decode cX9_leapsBy 144 = .ok (.aload_n 0, 1) := by decide +kernel
theorem dX9_leapsBy_145 : decode cX9_leapsBy 145 = .ok (.getfield 129, 3) := by decide +kernel
theorem dX9_leapsBy_148 : decode cX9_leapsBy 148 = .ok (.ireturn, 1) := by decide +kernel
theorem dX9_wishes_0 : decode cX9_wishes 0 = .ok (.aload_n 0, 1) := by decide +kernel
theorem dX9_wishes_1 : decode cX9_wishes 1 = .ok (.getfield 61, 3) := by decide +kernel
theorem dX9_wishes_4 : decode cX9_wishes 4 = .ok (.iconst 0, 1) := by decide +kernel
theorem dX9_wishes_5 : decode cX9_wishes 5 = .ok (.iload_n 1, 1) := by decide +kernel
theorem dX9_wishes_6 : decode cX9_wishes 6 = .ok (.iastore, 1) := by decide +kernel
theorem dX9_wishes_7 : decode cX9_wishes 7 = .ok (.aload_n 0, 1) := by decide +kernel
theorem dX9_wishes_8 : decode cX9_wishes 8 = .ok (.getfield 61, 3) := by decide +kernel
theorem dX9_wishes_11 : decode cX9_wishes 11 = .ok (.iconst 1, 1) := by decide +kernel
theorem dX9_wishes_12 : decode cX9_wishes 12 = .ok (.iload_n 2, 1) := by decide +kernel
theorem dX9_wishes_13 : decode cX9_wishes 13 = .ok (.iastore, 1) := by decide +kernel
theorem dX9_wishes_14 : decode cX9_wishes 14 = .ok (.aload_n 0, 1) := by decide +kernel
theorem dX9_wishes_15 : decode cX9_wishes 15 = .ok (.getfield 61, 3) := by decide +kernel
theorem dX9_wishes_18 : decode cX9_wishes 18 = .ok (.iconst 2, 1) := by decide +kernel
theorem dX9_wishes_19 : decode cX9_wishes 19 = .ok (.iload_n 3, 1) := by decide +kernel
theorem dX9_wishes_20 : decode cX9_wishes 20 = .ok (.iastore, 1) := by decide +kernel
theorem dX9_wishes_21 : decode cX9_wishes 21 = .ok (.aload_n 0, 1) := by decide +kernel
theorem dX9_wishes_22 : decode cX9_wishes 22 = .ok (.getfield 61, 3) := by decide +kernel
theorem dX9_wishes_25 : decode cX9_wishes 25 = .ok (.iconst 3, 1) := by decide +kernel
theorem dX9_wishes_26 : decode cX9_wishes 26 = .ok (.iload 4, 2) := by decide +kernel
theorem dX9_wishes_28 : decode cX9_wishes 28 = .ok (.iastore, 1) := by decide +kernel
theorem dX9_wishes_29 : decode cX9_wishes 29 = .ok (.iconst 0, 1) := by decide +kernel
theorem dX9_wishes_30 : decode cX9_wishes 30 = .ok (.istore 5, 2) := by decide +kernel
theorem dX9_wishes_32 : decode cX9_wishes 32 = .ok (.iload 5, 2) := by decide +kernel
theorem dX9_wishes_34 : decode cX9_wishes 34 = .ok (.iconst 4, 1) := by decide +kernel
theorem dX9_wishes_35 : decode cX9_wishes 35 = .ok (.if_icmp .ge 19, 3) := by decide +kernel
theorem dX9_wishes_38 : decode cX9_wishes 38 = .ok (.aload_n 0, 1) := by decide +kernel
theorem dX9_wishes_39 : decode cX9_wishes 39 = .ok (.getfield 61, 3) := by decide +kernel
theorem dX9_wishes_42 : decode cX9_wishes 42 = .ok (.iload 5, 2) := by decide +kernel
theorem dX9_wishes_44 : decode cX9_wishes 44 = .ok (.iaload, 1) := by decide +kernel
theorem dX9_wishes_45 : decode cX9_wishes 45 = .ok (.ifCond .eq 9, 3) := by decide +kernel
theorem dX9_wishes_48 : decode cX9_wishes 48 = .ok (.iinc 5 1, 3) := by decide +kernel
theorem dX9_wishes_51 : decode cX9_wishes 51 = .ok (.goto (-19), 3) := by decide +kernel
theorem dX9_wishes_54 : decode cX9_wishes 54 = .ok (.iload 5, 2) := by decide +kernel
theorem dX9_wishes_56 : decode cX9_wishes 56 = .ok (.ifCond .le 7, 3) := by decide +kernel
theorem dX9_wishes_59 : decode cX9_wishes 59 = .ok (.iconst 1, 1) := by decide +kernel
theorem dX9_wishes_60 : decode cX9_wishes 60 = .ok (.goto 4, 3) := by decide +kernel
theorem dX9_wishes_63 : decode cX9_wishes 63 = .ok (.iconst 0, 1) := by decide +kernel
theorem dX9_wishes_64 : decode cX9_wishes 64 = .ok (.istore 6, 2) := by decide +kernel
theorem dX9_wishes_66 : decode cX9_wishes 66 = .ok (.iconst 0, 1) := by decide +kernel
theorem dX9_wishes_67 : decode cX9_wishes 67 = .ok (.istore 7, 2) := by decide +kernel
theorem dX9_wishes_69 : decode cX9_wishes 69 = .ok (.iload 7, 2) := by decide +kernel
theorem dX9_wishes_71 : decode cX9_wishes 71 = .ok (.iconst 4, 1) := by decide +kernel
theorem dX9_wishes_72 : decode cX9_wishes 72 = .ok (.if_icmp .ge 61, 3) := by decide +kernel
theorem dX9_wishes_75 : decode cX9_wishes 75 = .ok (.iload 6, 2) := by decide +kernel
theorem dX9_wishes_77 : decode cX9_wishes 77 = .ok (.ifCond .eq 47, 3) := by decide +kernel
theorem dX9_wishes_80 : decode cX9_wishes 80 = .ok (.iload 7, 2) := by decide +kernel
theorem dX9_wishes_82 : decode cX9_wishes 82 = .ok (.iload 5, 2) := by decide +kernel
theorem dX9_wishes_84 : decode cX9_wishes 84 = .ok (.if_icmp .ge 26, 3) := by decide +kernel
theorem dX9_wishes_87 : decode cX9_wishes 87 = .ok (.aload_n 0, 1) := by decide +kernel
theorem dX9_wishes_88 : decode cX9_wishes 88 = .ok (.getfield 61, 3) := by decide +kernel
theorem dX9_wishes_91 : decode cX9_wishes 91 = .ok (.iload 7, 2) := by decide +kernel
theorem dX9_wishes_93 : decode cX9_wishes 93 = .ok (.iaload, 1) := by decide +kernel
theorem dX9_wishes_94 : decode cX9_wishes 94 = .ok (.i2l, 1) := by decide +kernel
theorem dX9_wishes_95 : decode cX9_wishes 95 = .ok (.ldc2_w 169, 3) := by decide +kernel
theorem dX9_wishes_98 : decode cX9_wishes 98 = .ok (.ldc2_w 171, 3) := by decide +kernel
theorem dX9_wishes_101 : decode cX9_wishes 101 = .ok (.invokestatic 21, 3) := by decide +kernel
theorem dX9_wishes_104 : decode cX9_wishes 104 = .ok (.ifCond .eq 20, 3) := by decide +kernel
theorem dX9_wishes_107 : decode cX9_wishes 107 = .ok (.goto 13, 3) := by decide +kernel
theorem dX9_wishes_110 : decode cX9_wishes 110 = .ok (.aload_n 0, 1) := by decide +kernel
theorem dX9_wishes_111 : decode cX9_wishes 111 = .ok (.getfield 61, 3) := by decide +kernel
theorem dX9_wishes_114 : decode cX9_wishes 114 = .ok (.iload 7, 2) := by decide +kernel
theorem dX9_wishes_116 : decode cX9_wishes 116 = .ok (.iaload, 1) := by decide +kernel
theorem dX9_wishes_117 : decode cX9_wishes 117 = .ok (.ifCond .ne 7, 3) := by decide +kernel
theorem dX9_wishes_120 : decode cX9_wishes 120 = .ok (.iconst 1, 1) := by decide +kernel
theorem dX9_wishes_121 : decode cX9_wishes 121 = .ok (.goto 4, 3) := by decide +kernel
theorem dX9_wishes_124 : decode cX9_wishes 124 = .ok (.iconst 0, 1) := by decide +kernel
theorem dX9_wishes_125 : decode cX9_wishes 125 = .ok (.istore 6, 2) := by decide +kernel
theorem dX9_wishes_127 : decode cX9_wishes 127 = .ok (.iinc 7 1, 3) := by decide +kernel
theorem dX9_wishes_130 : decode cX9_wishes 130 = .ok (.goto (-61), 3) := by decide +kernel
theorem dX9_wishes_133 : decode cX9_wishes 133 = .ok (.iload 6, 2) := by decide +kernel
theorem dX9_wishes_135 : decode cX9_wishes 135 = .ok (.ifCond .eq 8, 3) := by decide +kernel
theorem dX9_wishes_138 : decode cX9_wishes 138 = .ok (.iload 5, 2) := by decide +kernel
theorem dX9_wishes_140 : decode cX9_wishes 140 = .ok (.goto 4, 3) := by decide +kernel
theorem dX9_wishes_143 : decode cX9_wishes 143 = .ok (.iconst (-1), 1) := by decide +kernel
theorem dX9_wishes_144 : decode cX9_wishes 144 = .ok (.ireturn, 1) := by decide +kernel
theorem dX9_isAsWished_0 : decode cX9_isAsWished 0 = .ok (.iload_n 1, 1) := by decide +kernel
theorem dX9_isAsWished_1 : decode cX9_isAsWished 1 = .ok (.aload_n 0, 1) := by decide +kernel
theorem dX9_isAsWished_2 : decode cX9_isAsWished 2 = .ok (.iconst 0, 1) := by decide +kernel
theorem dX9_isAsWished_3 : decode cX9_isAsWished 3 = .ok (.invokevirtual 85, 3) := by decide +kernel
theorem dX9_isAsWished_6 : decode cX9_isAsWished 6 = .ok (.if_icmp .ne 7, 3) := by decide +kernel
theorem dX9_isAsWished_9 : decode cX9_isAsWished 9 = .ok (.iconst 1, 1) := by decide +kernel
theorem dX9_isAsWished_10 : decode cX9_isAsWished 10 = .ok (.goto 4, 3) := by decide +kernel
theorem dX9_isAsWished_13 : decode cX9_isAsWished 13 = .ok (.iconst 0, 1) := by decide +kernel
theorem dX9_isAsWished_14 : decode cX9_isAsWished 14 = .ok (.istore_n 2, 1) := by decide +kernel
theorem dX9_isAsWished_15 : decode cX9_isAsWished 15 = .ok (.iconst 0, 1) := by decide +kernel
theorem dX9_isAsWished_16 : decode cX9_isAsWished 16 = .ok (.istore_n 3, 1) := by decide +kernel
theorem dX9_isAsWished_17 : decode cX9_isAsWished 17 = .ok (.iload_n 3, 1) := by decide +kernel
theorem dX9_isAsWished_18 : decode cX9_isAsWished 18 = .ok (.iload_n 1, 1) := by decide +kernel
theorem dX9_isAsWished_19 : decode cX9_isAsWished 19 = .ok (.if_icmp .ge 35, 3) := by decide +kernel
theorem dX9_isAsWished_22 : decode cX9_isAsWished 22 = .ok (.iload_n 2, 1) := by decide +kernel
theorem dX9_isAsWished_23 : decode cX9_isAsWished 23 = .ok (.ifCond .eq 23, 3) := by decide +kernel
theorem dX9_isAsWished_26 : decode cX9_isAsWished 26 = .ok (.aload_n 0, 1) := by decide +kernel
theorem dX9_isAsWished_27 : decode cX9_isAsWished 27 = .ok (.iconst 1, 1) := by decide +kernel
theorem dX9_isAsWished_28 : decode cX9_isAsWished 28 = .ok (.iload_n 3, 1) := by decide +kernel
theorem dX9_isAsWished_29 : decode cX9_isAsWished 29 = .ok (.iadd, 1) := by decide +kernel
theorem dX9_isAsWished_30 : decode cX9_isAsWished 30 = .ok (.invokevirtual 85, 3) := by decide +kernel
theorem dX9_isAsWished_33 : decode cX9_isAsWished 33 = .ok (.aload_n 0, 1) := by decide +kernel
theorem dX9_isAsWished_34 : decode cX9_isAsWished 34 = .ok (.getfield 61, 3) := by decide +kernel
theorem dX9_isAsWished_37 : decode cX9_isAsWished 37 = .ok (.iload_n 3, 1) := by decide +kernel
theorem dX9_isAsWished_38 : decode cX9_isAsWished 38 = .ok (.iaload, 1) := by decide +kernel
theorem dX9_isAsWished_39 : decode cX9_isAsWished 39 = .ok (.if_icmp .ne 7, 3) := by decide +kernel
theorem dX9_isAsWished_42 : decode cX9_isAsWished 42 = .ok (.iconst 1, 1) := by decide +kernel
theorem dX9_isAsWished_43 : decode cX9_isAsWished 43 = .ok (.goto 4, 3) := by decide +kernel
theorem dX9_isAsWished_46 : decode cX9_isAsWished 46 = .ok (.iconst 0, 1) := by decide +kernel
theorem dX9_isAsWished_47 : decode cX9_isAsWished 47 = .ok (.istore_n 2, 1) := by decide +kernel
theorem dX9_isAsWished_48 : decode cX9_isAsWished 48 = .ok (.iinc 3 1, 3) := by decide +kernel
theorem dX9_isAsWished_51 : decode cX9_isAsWished 51 = .ok (.goto (-34), 3) := by decide +kernel
theorem dX9_isAsWished_54 : decode cX9_isAsWished 54 = .ok (.iload_n 2, 1) := by decide +kernel
theorem dX9_isAsWished_55 : decode cX9_isAsWished 55 = .ok (.ireturn, 1) := by decide +kernel
theorem dX9_laysWished_0 : decode cX9_laysWished 0 = .ok (.aload_n 0, 1) := by decide +kernel
theorem dX9_laysWished_1 : decode cX9_laysWished 1 = .ok (.iconst 0, 1) := by decide +kernel
theorem dX9_laysWished_2 : decode cX9_laysWished 2 = .ok (.iload_n 1, 1) := by decide +kernel
theorem dX9_laysWished_3 : decode cX9_laysWished 3 = .ok (.invokevirtual 76, 3) := by decide +kernel
theorem dX9_laysWished_6 : decode cX9_laysWished 6 = .ok (.iconst 0, 1) := by decide +kernel
theorem dX9_laysWished_7 : decode cX9_laysWished 7 = .ok (.istore_n 2, 1) := by decide +kernel
theorem dX9_laysWished_8 : decode cX9_laysWished 8 = .ok (.iload_n 2, 1) := by decide +kernel
theorem dX9_laysWished_9 : decode cX9_laysWished 9 = .ok (.iconst 4, 1) := by decide +kernel
theorem dX9_laysWished_10 : decode cX9_laysWished 10 = .ok (.if_icmp .ge 22, 3) := by decide +kernel
theorem dX9_laysWished_13 : decode cX9_laysWished 13 = .ok (.aload_n 0, 1) := by decide +kernel
theorem dX9_laysWished_14 : decode cX9_laysWished 14 = .ok (.iconst 1, 1) := by decide +kernel
theorem dX9_laysWished_15 : decode cX9_laysWished 15 = .ok (.iload_n 2, 1) := by decide +kernel
theorem dX9_laysWished_16 : decode cX9_laysWished 16 = .ok (.iadd, 1) := by decide +kernel
theorem dX9_laysWished_17 : decode cX9_laysWished 17 = .ok (.aload_n 0, 1) := by decide +kernel
theorem dX9_laysWished_18 : decode cX9_laysWished 18 = .ok (.getfield 61, 3) := by decide +kernel
theorem dX9_laysWished_21 : decode cX9_laysWished 21 = .ok (.iload_n 2, 1) := by decide +kernel
theorem dX9_laysWished_22 : decode cX9_laysWished 22 = .ok (.iaload, 1) := by decide +kernel
theorem dX9_laysWished_23 : decode cX9_laysWished 23 = .ok (.invokevirtual 76, 3) := by decide +kernel
theorem dX9_laysWished_26 : decode cX9_laysWished 26 = .ok (.iinc 2 1, 3) := by decide +kernel
theorem dX9_laysWished_29 : decode cX9_laysWished 29 = .ok (.goto (-21), 3) := by decide +kernel
theorem dX9_laysWished_32 : decode cX9_laysWished 32 = .ok (.aload_n 0, 1) := by decide +kernel
theorem dX9_laysWished_33 : decode cX9_laysWished 33 = .ok (.invokevirtual 166, 3) := by decide +kernel
theorem dX9_laysWished_36 : decode cX9_laysWished 36 = .ok (.return_, 1) := by decide +kernel
theorem dX9_wheels_0 : decode cX9_wheels 0 = .ok (.aload_n 0, 1) := by decide +kernel
theorem dX9_wheels_1 : decode cX9_wheels 1 = .ok (.iconst 0, 1) := by decide +kernel
theorem dX9_wheels_2 : decode cX9_wheels 2 = .ok (.putfield 1, 3) := by decide +kernel
theorem dX9_wheels_5 : decode cX9_wheels 5 = .ok (.aload_n 0, 1) := by decide +kernel
theorem dX9_wheels_6 : decode cX9_wheels 6 = .ok (.iload_n 1, 1) := by decide +kernel
theorem dX9_wheels_7 : decode cX9_wheels 7 = .ok (.iload_n 2, 1) := by decide +kernel
theorem dX9_wheels_8 : decode cX9_wheels 8 = .ok (.iload_n 3, 1) := by decide +kernel
theorem dX9_wheels_9 : decode cX9_wheels 9 = .ok (.iload 4, 2) := by decide +kernel
theorem dX9_wheels_11 : decode cX9_wheels 11 = .ok (.invokevirtual 173, 3) := by decide +kernel
theorem dX9_wheels_14 : decode cX9_wheels 14 = .ok (.istore 5, 2) := by decide +kernel
theorem dX9_wheels_16 : decode cX9_wheels 16 = .ok (.iload 5, 2) := by decide +kernel
theorem dX9_wheels_18 : decode cX9_wheels 18 = .ok (.ifCond .ge 5, 3) := by decide +kernel
theorem dX9_wheels_21 : decode cX9_wheels 21 = .ok (.iconst (-1), 1) := by decide +kernel
theorem dX9_wheels_22 : decode cX9_wheels 22 = .ok (.ireturn, 1) := by decide +kernel
theorem dX9_wheels_23 : decode cX9_wheels 23 = .ok (.aload_n 0, 1) := by decide +kernel
theorem dX9_wheels_24 : decode cX9_wheels 24 = .ok (.iload 5, 2) := by decide +kernel
theorem dX9_wheels_26 : decode cX9_wheels 26 = .ok (.invokevirtual 177, 3) := by decide +kernel
theorem dX9_wheels_29 : decode cX9_wheels 29 = .ok (.ifCond .eq 6, 3) := by decide +kernel
theorem dX9_wheels_32 : decode cX9_wheels 32 = .ok (.bipush (-2), 2) := by decide +kernel
theorem dX9_wheels_34 : decode cX9_wheels 34 = .ok (.ireturn, 1) := by decide +kernel
theorem dX9_wheels_35 : decode cX9_wheels 35 = .ok (.aload_n 0, 1) := by decide +kernel
theorem dX9_wheels_36 : decode cX9_wheels 36 = .ok (.iload 5, 2) := by decide +kernel
theorem dX9_wheels_38 : decode cX9_wheels 38 = .ok (.invokevirtual 180, 3) := by decide +kernel
theorem dX9_wheels_41 : decode cX9_wheels 41 = .ok (.iload 5, 2) := by decide +kernel
theorem dX9_wheels_43 : decode cX9_wheels 43 = .ok (.ireturn, 1) := by decide +kernel
theorem dX9_order_0 : decode cX9_order 0 = .ok (.aload_n 0, 1) := by decide +kernel
theorem dX9_order_1 : decode cX9_order 1 = .ok (.iconst 0, 1) := by decide +kernel
theorem dX9_order_2 : decode cX9_order 2 = .ok (.putfield 1, 3) := by decide +kernel
theorem dX9_order_5 : decode cX9_order 5 = .ok (.iload_n 1, 1) := by decide +kernel
theorem dX9_order_6 : decode cX9_order 6 = .ok (.i2l, 1) := by decide +kernel
theorem dX9_order_7 : decode cX9_order 7 = .ok (.lconst 0, 1) := by decide +kernel
theorem dX9_order_8 : decode cX9_order 8 = .ok (.ldc2_w 169, 3) := by decide +kernel
theorem dX9_order_11 : decode cX9_order 11 = .ok (.invokestatic 21, 3) := by decide +kernel
theorem dX9_order_14 : decode cX9_order 14 = .ok (.ifCond .ne 5, 3) := by decide +kernel
theorem dX9_order_17 : decode cX9_order 17 = .ok (.iconst (-1), 1) := by decide +kernel
theorem dX9_order_18 : decode cX9_order 18 = .ok (.ireturn, 1) := by decide +kernel
theorem dX9_order_19 : decode cX9_order 19 = .ok (.aload_n 0, 1) := by decide +kernel
theorem dX9_order_20 : decode cX9_order 20 = .ok (.iconst 5, 1) := by decide +kernel
theorem dX9_order_21 : decode cX9_order 21 = .ok (.invokevirtual 85, 3) := by decide +kernel
theorem dX9_order_24 : decode cX9_order 24 = .ok (.istore_n 2, 1) := by decide +kernel
theorem dX9_order_25 : decode cX9_order 25 = .ok (.iload_n 2, 1) := by decide +kernel
theorem dX9_order_26 : decode cX9_order 26 = .ok (.iload_n 1, 1) := by decide +kernel
theorem dX9_order_27 : decode cX9_order 27 = .ok (.if_icmp .ne 6, 3) := by decide +kernel
theorem dX9_order_30 : decode cX9_order 30 = .ok (.bipush (-2), 2) := by decide +kernel
theorem dX9_order_32 : decode cX9_order 32 = .ok (.ireturn, 1) := by decide +kernel
theorem dX9_order_33 : decode cX9_order 33 = .ok (.aload_n 0, 1) := by decide +kernel
theorem dX9_order_34 : decode cX9_order 34 = .ok (.iconst 5, 1) := by decide +kernel
theorem dX9_order_35 : decode cX9_order 35 = .ok (.iload_n 1, 1) := by decide +kernel
theorem dX9_order_36 : decode cX9_order 36 = .ok (.invokevirtual 76, 3) := by decide +kernel
theorem dX9_order_39 : decode cX9_order 39 = .ok (.iload_n 2, 1) := by decide +kernel
theorem dX9_order_40 : decode cX9_order 40 = .ok (.ireturn, 1) := by decide +kernel
theorem dX9_ticks_0 : decode cX9_ticks 0 = .ok (.aload_n 0, 1) := by decide +kernel
theorem dX9_ticks_1 : decode cX9_ticks 1 = .ok (.iconst 0, 1) := by decide +kernel
theorem dX9_ticks_2 : decode cX9_ticks 2 = .ok (.putfield 1, 3) := by decide +kernel
theorem dX9_ticks_5 : decode cX9_ticks 5 = .ok (.iload_n 1, 1) := by decide +kernel
theorem dX9_ticks_6 : decode cX9_ticks 6 = .ok (.i2l, 1) := by decide +kernel
theorem dX9_ticks_7 : decode cX9_ticks 7 = .ok (.lconst 1, 1) := by decide +kernel
theorem dX9_ticks_8 : decode cX9_ticks 8 = .ok (.ldc2_w 183, 3) := by decide +kernel
theorem dX9_ticks_11 : decode cX9_ticks 11 = .ok (.invokestatic 21, 3) := by decide +kernel
theorem dX9_ticks_14 : decode cX9_ticks 14 = .ok (.ifCond .ne 5, 3) := by decide +kernel
theorem dX9_ticks_17 : decode cX9_ticks 17 = .ok (.iconst (-1), 1) := by decide +kernel
theorem dX9_ticks_18 : decode cX9_ticks 18 = .ok (.ireturn, 1) := by decide +kernel
theorem dX9_ticks_19 : decode cX9_ticks 19 = .ok (.aload_n 0, 1) := by decide +kernel
theorem dX9_ticks_20 : decode cX9_ticks 20 = .ok (.iload_n 1, 1) := by decide +kernel
theorem dX9_ticks_21 : decode cX9_ticks 21 = .ok (.invokevirtual 185, 3) := by decide +kernel
theorem dX9_ticks_24 : decode cX9_ticks 24 = .ok (.istore_n 2, 1) := by decide +kernel
theorem dX9_ticks_25 : decode cX9_ticks 25 = .ok (.iload_n 2, 1) := by decide +kernel
theorem dX9_ticks_26 : decode cX9_ticks 26 = .ok (.ifCond .lt 7, 3) := by decide +kernel
theorem dX9_ticks_29 : decode cX9_ticks 29 = .ok (.aload_n 0, 1) := by decide +kernel
theorem dX9_ticks_30 : decode cX9_ticks 30 = .ok (.invokevirtual 188, 3) := by decide +kernel
theorem dX9_ticks_33 : decode cX9_ticks 33 = .ok (.iload_n 2, 1) := by decide +kernel
theorem dX9_ticks_34 : decode cX9_ticks 34 = .ok (.ireturn, 1) := by decide +kernel
theorem dX9_isLeap_0 : decode cX9_isLeap 0 = .ok (.iload_n 0, 1) := by decide +kernel
theorem dX9_isLeap_1 : decode cX9_isLeap 1 = .ok (.ifCond .eq 21, 3) := by decide +kernel
theorem dX9_isLeap_4 : decode cX9_isLeap 4 = .ok (.iload_n 0, 1) := by decide +kernel
theorem dX9_isLeap_5 : decode cX9_isLeap 5 = .ok (.i2l, 1) := by decide +kernel
theorem dX9_isLeap_6 : decode cX9_isLeap 6 = .ok (.ldc2_w 191, 3) := by decide +kernel
theorem dX9_isLeap_9 : decode cX9_isLeap 9 = .ok (.ldc2_w 193, 3) := by decide +kernel
theorem dX9_isLeap_12 : decode cX9_isLeap 12 = .ok (.invokestatic 21, 3) := by decide +kernel
theorem dX9_isLeap_15 : decode cX9_isLeap 15 = .ok (.ifCond .eq 7, 3) := by decide +kernel
theorem dX9_isLeap_18 : decode cX9_isLeap 18 = .ok (.iconst 1, 1) := by decide +kernel
theorem dX9_isLeap_19 : decode cX9_isLeap 19 = .ok (.goto 4, 3) := by decide +kernel
theorem dX9_isLeap_22 : decode cX9_isLeap 22 = .ok (.iconst 0, 1) := by decide +kernel
theorem dX9_isLeap_23 : decode cX9_isLeap 23 = .ok (.ireturn, 1) := by decide +kernel
theorem dX9_leaps_0 : decode cX9_leaps 0 = .ok (.aload_n 0, 1) := by decide +kernel
theorem dX9_leaps_1 : decode cX9_leaps 1 = .ok (.iconst 0, 1) := by decide +kernel
theorem dX9_leaps_2 : decode cX9_leaps 2 = .ok (.putfield 1, 3) := by decide +kernel
theorem dX9_leaps_5 : decode cX9_leaps 5 = .ok (.iload_n 1, 1) := by decide +kernel
theorem dX9_leaps_6 : decode cX9_leaps 6 = .ok (.invokestatic 195, 3) := by decide +kernel
theorem dX9_leaps_9 : decode cX9_leaps 9 = .ok (.ifCond .ne 5, 3) := by decide +kernel
theorem dX9_leaps_12 : decode cX9_leaps 12 = .ok (.iconst (-1), 1) := by decide +kernel
theorem dX9_leaps_13 : decode cX9_leaps 13 = .ok (.ireturn, 1) := by decide +kernel
theorem dX9_leaps_14 : decode cX9_leaps 14 = .ok (.aload_n 0, 1) := by decide +kernel
theorem dX9_leaps_15 : decode cX9_leaps 15 = .ok (.iload_n 1, 1) := by decide +kernel
theorem dX9_leaps_16 : decode cX9_leaps 16 = .ok (.invokevirtual 198, 3) := by decide +kernel
theorem dX9_leaps_19 : decode cX9_leaps 19 = .ok (.istore_n 2, 1) := by decide +kernel
theorem dX9_leaps_20 : decode cX9_leaps 20 = .ok (.iload_n 2, 1) := by decide +kernel
theorem dX9_leaps_21 : decode cX9_leaps 21 = .ok (.ifCond .lt 7, 3) := by decide +kernel
theorem dX9_leaps_24 : decode cX9_leaps 24 = .ok (.aload_n 0, 1) := by decide +kernel
theorem dX9_leaps_25 : decode cX9_leaps 25 = .ok (.invokevirtual 188, 3) := by decide +kernel
theorem dX9_leaps_28 : decode cX9_leaps 28 = .ok (.iload_n 2, 1) := by decide +kernel
theorem dX9_leaps_29 : decode cX9_leaps 29 = .ok (.ireturn, 1) := by decide +kernel
theorem dX9_many_0 : decode cX9_many 0 = .ok (.iconst 0, 1) := by decide +kernel
theorem dX9_many_1 : decode cX9_many 1 = .ok (.istore_n 1, 1) := by decide +kernel
theorem dX9_many_2 : decode cX9_many 2 = .ok (.iconst 0, 1) := by decide +kernel
theorem dX9_many_3 : decode cX9_many 3 = .ok (.istore_n 2, 1) := by decide +kernel
theorem dX9_many_4 : decode cX9_many 4 = .ok (.iload_n 2, 1) := by decide +kernel
theorem dX9_many_5 : decode cX9_many 5 = .ok (.bipush 16, 2) := by decide +kernel
theorem dX9_many_7 : decode cX9_many 7 = .ok (.if_icmp .ge 21, 3) := by decide +kernel
theorem dX9_many_10 : decode cX9_many 10 = .ok (.iload_n 1, 1) := by decide +kernel
theorem dX9_many_11 : decode cX9_many 11 = .ok (.aload_n 0, 1) := by decide +kernel
theorem dX9_many_12 : decode cX9_many 12 = .ok (.sipush 215, 3) := by decide +kernel
theorem dX9_many_15 : decode cX9_many 15 = .ok (.iload_n 2, 1) := by decide +kernel
theorem dX9_many_16 : decode cX9_many 16 = .ok (.iadd, 1) := by decide +kernel
theorem dX9_many_17 : decode cX9_many 17 = .ok (.invokevirtual 85, 3) := by decide +kernel
theorem dX9_many_20 : decode cX9_many 20 = .ok (.iadd, 1) := by decide +kernel
theorem dX9_many_21 : decode cX9_many 21 = .ok (.istore_n 1, 1) := by decide +kernel
theorem dX9_many_22 : decode cX9_many 22 = .ok (.iinc 2 1, 3) := by decide +kernel
theorem dX9_many_25 : decode cX9_many 25 = .ok (.goto (-21), 3) := by decide +kernel
theorem dX9_many_28 : decode cX9_many 28 = .ok (.iload_n 1, 1) := by decide +kernel
theorem dX9_many_29 : decode cX9_many 29 = .ok (.ireturn, 1) := by decide +kernel
theorem dX9_setsOne_0 : decode cX9_setsOne 0 = .ok (.iconst 0, 1) := by decide +kernel
theorem dX9_setsOne_1 : decode cX9_setsOne 1 = .ok (.istore 6, 2) := by decide +kernel
theorem dX9_setsOne_3 : decode cX9_setsOne 3 = .ok (.iload 6, 2) := by decide +kernel
theorem dX9_setsOne_5 : decode cX9_setsOne 5 = .ok (.bipush 16, 2) := by decide +kernel
theorem dX9_setsOne_7 : decode cX9_setsOne 7 = .ok (.if_icmp .ge 23, 3) := by decide +kernel
theorem dX9_setsOne_10 : decode cX9_setsOne 10 = .ok (.aload_n 0, 1) := by decide +kernel
theorem dX9_setsOne_11 : decode cX9_setsOne 11 = .ok (.sipush 215, 3) := by decide +kernel
theorem dX9_setsOne_14 : decode cX9_setsOne 14 = .ok (.iload 6, 2) := by decide +kernel
theorem dX9_setsOne_16 : decode cX9_setsOne 16 = .ok (.iadd, 1) := by decide +kernel
theorem dX9_setsOne_17 : decode cX9_setsOne 17 = .ok (.invokevirtual 85, 3) := by decide +kernel
theorem dX9_setsOne_20 : decode cX9_setsOne 20 = .ok (.iconst 1, 1) := by decide +kernel
theorem dX9_setsOne_21 : decode cX9_setsOne 21 = .ok (.if_icmp .ne 9, 3) := by decide +kernel
theorem dX9_setsOne_24 : decode cX9_setsOne 24 = .ok (.iinc 6 1, 3) := by decide +kernel
theorem dX9_setsOne_27 : decode cX9_setsOne 27 = .ok (.goto (-24), 3) := by decide +kernel
theorem dX9_setsOne_30 : decode cX9_setsOne 30 = .ok (.iload 6, 2) := by decide +kernel
theorem dX9_setsOne_32 : decode cX9_setsOne 32 = .ok (.bipush 16, 2) := by decide +kernel
theorem dX9_setsOne_34 : decode cX9_setsOne 34 = .ok (.if_icmp .ne 6, 3) := by decide +kernel
theorem dX9_setsOne_37 : decode cX9_setsOne 37 = .ok (.bipush (-3), 2) := by decide +kernel
theorem dX9_setsOne_39 : decode cX9_setsOne 39 = .ok (.ireturn, 1) := by decide +kernel
theorem dX9_setsOne_40 : decode cX9_setsOne 40 = .ok (.aload_n 0, 1) := by decide +kernel
theorem dX9_setsOne_41 : decode cX9_setsOne 41 = .ok (.sipush 215, 3) := by decide +kernel
theorem dX9_setsOne_44 : decode cX9_setsOne 44 = .ok (.iload 6, 2) := by decide +kernel
theorem dX9_setsOne_46 : decode cX9_setsOne 46 = .ok (.iadd, 1) := by decide +kernel
theorem dX9_setsOne_47 : decode cX9_setsOne 47 = .ok (.iconst 1, 1) := by decide +kernel
theorem dX9_setsOne_48 : decode cX9_setsOne 48 = .ok (.invokevirtual 76, 3) := by decide +kernel
theorem dX9_setsOne_51 : decode cX9_setsOne 51 = .ok (.aload_n 0, 1) := by decide +kernel
theorem dX9_setsOne_52 : decode cX9_setsOne 52 = .ok (.sipush 231, 3) := by decide +kernel
theorem dX9_setsOne_55 : decode cX9_setsOne 55 = .ok (.iload 6, 2) := by decide +kernel
theorem dX9_setsOne_57 : decode cX9_setsOne 57 = .ok (.iadd, 1) := by decide +kernel
theorem dX9_setsOne_58 : decode cX9_setsOne 58 = .ok (.aload_n 0, 1) := by decide +kernel
theorem dX9_setsOne_59 : decode cX9_setsOne 59 = .ok (.bipush 6, 2) := by decide +kernel
theorem dX9_setsOne_61 : decode cX9_setsOne 61 = .ok (.invokevirtual 85, 3) := by decide +kernel
theorem dX9_setsOne_64 : decode cX9_setsOne 64 = .ok (.iload_n 1, 1) := by decide +kernel
theorem dX9_setsOne_65 : decode cX9_setsOne 65 = .ok (.iadd, 1) := by decide +kernel
theorem dX9_setsOne_66 : decode cX9_setsOne 66 = .ok (.invokevirtual 76, 3) := by decide +kernel
theorem dX9_setsOne_69 : decode cX9_setsOne 69 = .ok (.aload_n 0, 1) := by decide +kernel
theorem dX9_setsOne_70 : decode cX9_setsOne 70 = .ok (.sipush 247, 3) := by decide +kernel
theorem dX9_setsOne_73 : decode cX9_setsOne 73 = .ok (.iload 6, 2) := by decide +kernel
theorem dX9_setsOne_75 : decode cX9_setsOne 75 = .ok (.iadd, 1) := by decide +kernel
theorem dX9_setsOne_76 : decode cX9_setsOne 76 = .ok (.aload_n 0, 1) := by decide +kernel
theorem dX9_setsOne_77 : decode cX9_setsOne 77 = .ok (.bipush 13, 2) := by decide +kernel
theorem dX9_setsOne_79 : decode cX9_setsOne 79 = .ok (.invokevirtual 85, 3) := by decide +kernel
theorem dX9_setsOne_82 : decode cX9_setsOne 82 = .ok (.invokevirtual 76, 3) := by decide +kernel
theorem dX9_setsOne_85 : decode cX9_setsOne 85 = .ok (.aload_n 0, 1) := by decide +kernel
theorem dX9_setsOne_86 : decode cX9_setsOne 86 = .ok (.sipush 263, 3) := by decide +kernel
theorem dX9_setsOne_89 : decode cX9_setsOne 89 = .ok (.iload 6, 2) := by decide +kernel
theorem dX9_setsOne_91 : decode cX9_setsOne 91 = .ok (.iadd, 1) := by decide +kernel
theorem dX9_setsOne_92 : decode cX9_setsOne 92 = .ok (.iload_n 2, 1) := by decide +kernel
theorem dX9_setsOne_93 : decode cX9_setsOne 93 = .ok (.invokevirtual 76, 3) := by decide +kernel
theorem dX9_setsOne_96 : decode cX9_setsOne 96 = .ok (.aload_n 0, 1) := by decide +kernel
theorem dX9_setsOne_97 : decode cX9_setsOne 97 = .ok (.sipush 279, 3) := by decide +kernel
theorem dX9_setsOne_100 : decode cX9_setsOne 100 = .ok (.iload 6, 2) := by decide +kernel
theorem dX9_setsOne_102 : decode cX9_setsOne 102 = .ok (.iadd, 1) := by decide +kernel
theorem dX9_setsOne_103 : decode cX9_setsOne 103 = .ok (.iload_n 3, 1) := by decide +kernel
theorem dX9_setsOne_104 : decode cX9_setsOne 104 = .ok (.invokevirtual 76, 3) := by decide +kernel
theorem dX9_setsOne_107 : decode cX9_setsOne 107 = .ok (.aload_n 0, 1) := by decide +kernel
theorem dX9_setsOne_108 : decode cX9_setsOne 108 = .ok (.sipush 295, 3) := by decide +kernel
theorem dX9_setsOne_111 : decode cX9_setsOne 111 = .ok (.iload 6, 2) := by decide +kernel
theorem dX9_setsOne_113 : decode cX9_setsOne 113 = .ok (.iadd, 1) := by decide +kernel
theorem dX9_setsOne_114 : decode cX9_setsOne 114 = .ok (.iload 4, 2) := by decide +kernel
theorem dX9_setsOne_116 : decode cX9_setsOne 116 = .ok (.invokevirtual 76, 3) := by decide +kernel
theorem dX9_setsOne_119 : decode cX9_setsOne 119 = .ok (.aload_n 0, 1) := by decide +kernel
theorem dX9_setsOne_120 : decode cX9_setsOne 120 = .ok (.sipush 311, 3) := by decide +kernel
theorem dX9_setsOne_123 : decode cX9_setsOne 123 = .ok (.iload 6, 2) := by decide +kernel
theorem dX9_setsOne_125 : decode cX9_setsOne 125 = .ok (.iadd, 1) := by decide +kernel
theorem dX9_setsOne_126 : decode cX9_setsOne 126 = .ok (.iload 5, 2) := by decide +kernel
theorem dX9_setsOne_128 : decode cX9_setsOne 128 = .ok (.invokevirtual 76, 3) := by decide +kernel
theorem dX9_setsOne_131 : decode cX9_setsOne 131 = .ok (.aload_n 0, 1) := by decide +kernel
theorem dX9_setsOne_132 : decode cX9_setsOne 132 = .ok (.sipush 327, 3) := by decide +kernel
theorem dX9_setsOne_135 : decode cX9_setsOne 135 = .ok (.iload 6, 2) := by decide +kernel
theorem dX9_setsOne_137 : decode cX9_setsOne 137 = .ok (.iadd, 1) := by decide +kernel
theorem dX9_setsOne_138 : decode cX9_setsOne 138 = .ok (.iconst 0, 1) := by decide +kernel
theorem dX9_setsOne_139 : decode cX9_setsOne 139 = .ok (.invokevirtual 76, 3) := by decide +kernel
theorem dX9_setsOne_142 : decode cX9_setsOne 142 = .ok (.aload_n 0, 1) := by decide +kernel
theorem dX9_setsOne_143 : decode cX9_setsOne 143 = .ok (.sipush 343, 3) := by decide +kernel
theorem dX9_setsOne_146 : decode cX9_setsOne 146 = .ok (.iload 6, 2) := by decide +kernel
theorem dX9_setsOne_148 : decode cX9_setsOne 148 = .ok (.iadd, 1) := by decide +kernel
theorem dX9_setsOne_149 : decode cX9_setsOne 149 = .ok (.iconst 0, 1) := by decide +kernel
theorem dX9_setsOne_150 : decode cX9_setsOne 150 = .ok (.invokevirtual 76, 3) := by decide +kernel
theorem dX9_setsOne_153 : decode cX9_setsOne 153 = .ok (.aload_n 0, 1) := by decide +kernel
theorem dX9_setsOne_154 : decode cX9_setsOne 154 = .ok (.sipush 375, 3) := by decide +kernel
theorem dX9_setsOne_157 : decode cX9_setsOne 157 = .ok (.iload 6, 2) := by decide +kernel
theorem dX9_setsOne_159 : decode cX9_setsOne 159 = .ok (.iadd, 1) := by decide +kernel
theorem dX9_setsOne_160 : decode cX9_setsOne 160 = .ok (.iconst 0, 1) := by decide +kernel
theorem dX9_setsOne_161 : decode cX9_setsOne 161 = .ok (.invokevirtual 76, 3) := by decide +kernel
theorem dX9_setsOne_164 : decode cX9_setsOne 164 = .ok (.aload_n 0, 1) := by decide +kernel
theorem dX9_setsOne_165 : decode cX9_setsOne 165 = .ok (.bipush 13, 2) := by decide +kernel
theorem dX9_setsOne_167 : decode cX9_setsOne 167 = .ok (.iconst 1, 1) := by decide +kernel
theorem dX9_setsOne_168 : decode cX9_setsOne 168 = .ok (.invokevirtual 106, 3) := by decide +kernel
theorem dX9_setsOne_171 : decode cX9_setsOne 171 = .ok (.aload_n 0, 1) := by decide +kernel
theorem dX9_setsOne_172 : decode cX9_setsOne 172 = .ok (.iload 6, 2) := by decide +kernel
theorem dX9_setsOne_174 : decode cX9_setsOne 174 = .ok (.invokevirtual 102, 3) := by decide +kernel
theorem dX9_setsOne_177 : decode cX9_setsOne 177 = .ok (.iload 6, 2) := by decide +kernel
theorem dX9_setsOne_179 : decode cX9_setsOne 179 = .ok (.ireturn, 1) := by decide +kernel
theorem dX9_sets_0 : decode cX9_sets 0 = .ok (.aload_n 0, 1) := by decide +kernel
theorem dX9_sets_1 : decode cX9_sets 1 = .ok (.iconst 0, 1) := by decide +kernel
theorem dX9_sets_2 : decode cX9_sets 2 = .ok (.putfield 1, 3) := by decide +kernel
theorem dX9_sets_5 : decode cX9_sets 5 = .ok (.iload_n 1, 1) := by decide +kernel
theorem dX9_sets_6 : decode cX9_sets 6 = .ok (.i2l, 1) := by decide +kernel
theorem dX9_sets_7 : decode cX9_sets 7 = .ok (.lconst 1, 1) := by decide +kernel
theorem dX9_sets_8 : decode cX9_sets 8 = .ok (.ldc2_w 193, 3) := by decide +kernel
theorem dX9_sets_11 : decode cX9_sets 11 = .ok (.invokestatic 21, 3) := by decide +kernel
theorem dX9_sets_14 : decode cX9_sets 14 = .ok (.ifCond .eq 53, 3) := by decide +kernel
theorem dX9_sets_17 : decode cX9_sets 17 = .ok (.iload_n 2, 1) := by decide +kernel
theorem dX9_sets_18 : decode cX9_sets 18 = .ok (.i2l, 1) := by decide +kernel
theorem dX9_sets_19 : decode cX9_sets 19 = .ok (.lconst 0, 1) := by decide +kernel
theorem dX9_sets_20 : decode cX9_sets 20 = .ok (.ldc2_w 201, 3) := by decide +kernel
theorem dX9_sets_23 : decode cX9_sets 23 = .ok (.invokestatic 21, 3) := by decide +kernel
theorem dX9_sets_26 : decode cX9_sets 26 = .ok (.ifCond .eq 41, 3) := by decide +kernel
theorem dX9_sets_29 : decode cX9_sets 29 = .ok (.iload_n 3, 1) := by decide +kernel
theorem dX9_sets_30 : decode cX9_sets 30 = .ok (.i2l, 1) := by decide +kernel
theorem dX9_sets_31 : decode cX9_sets 31 = .ok (.lconst 0, 1) := by decide +kernel
theorem dX9_sets_32 : decode cX9_sets 32 = .ok (.ldc2_w 203, 3) := by decide +kernel
theorem dX9_sets_35 : decode cX9_sets 35 = .ok (.invokestatic 21, 3) := by decide +kernel
theorem dX9_sets_38 : decode cX9_sets 38 = .ok (.ifCond .eq 29, 3) := by decide +kernel
theorem dX9_sets_41 : decode cX9_sets 41 = .ok (.iload 4, 2) := by decide +kernel
theorem dX9_sets_43 : decode cX9_sets 43 = .ok (.i2l, 1) := by decide +kernel
theorem dX9_sets_44 : decode cX9_sets 44 = .ok (.lconst 1, 1) := by decide +kernel
theorem dX9_sets_45 : decode cX9_sets 45 = .ok (.ldc2_w 205, 3) := by decide +kernel
theorem dX9_sets_48 : decode cX9_sets 48 = .ok (.invokestatic 21, 3) := by decide +kernel
theorem dX9_sets_51 : decode cX9_sets 51 = .ok (.ifCond .eq 16, 3) := by decide +kernel
theorem dX9_sets_54 : decode cX9_sets 54 = .ok (.iload 5, 2) := by decide +kernel
theorem dX9_sets_56 : decode cX9_sets 56 = .ok (.i2l, 1) := by decide +kernel
theorem dX9_sets_57 : decode cX9_sets 57 = .ok (.lconst 0, 1) := by decide +kernel
theorem dX9_sets_58 : decode cX9_sets 58 = .ok (.ldc2_w 207, 3) := by decide +kernel
theorem dX9_sets_61 : decode cX9_sets 61 = .ok (.invokestatic 21, 3) := by decide +kernel
theorem dX9_sets_64 : decode cX9_sets 64 = .ok (.ifCond .ne 5, 3) := by decide +kernel
theorem dX9_sets_67 : decode cX9_sets 67 = .ok (.iconst (-1), 1) := by decide +kernel
theorem dX9_sets_68 : decode cX9_sets 68 = .ok (.ireturn, 1) := by decide +kernel
theorem dX9_sets_69 : decode cX9_sets 69 = .ok (.aload_n 0, 1) := by decide +kernel
theorem dX9_sets_70 : decode cX9_sets 70 = .ok (.iload_n 1, 1) := by decide +kernel
theorem dX9_sets_71 : decode cX9_sets 71 = .ok (.iload_n 2, 1) := by decide +kernel
theorem dX9_sets_72 : decode cX9_sets 72 = .ok (.iload_n 3, 1) := by decide +kernel
theorem dX9_sets_73 : decode cX9_sets 73 = .ok (.iload 4, 2) := by decide +kernel
theorem dX9_sets_75 : decode cX9_sets 75 = .ok (.iload 5, 2) := by decide +kernel
theorem dX9_sets_77 : decode cX9_sets 77 = .ok (.invokevirtual 209, 3) := by decide +kernel
theorem dX9_sets_80 : decode cX9_sets 80 = .ok (.ireturn, 1) := by decide +kernel
theorem dX9_cancelsOne_0 : decode cX9_cancelsOne 0 = .ok (.aload_n 0, 1) := by decide +kernel
theorem dX9_cancelsOne_1 : decode cX9_cancelsOne 1 = .ok (.iload_n 1, 1) := by decide +kernel
theorem dX9_cancelsOne_2 : decode cX9_cancelsOne 2 = .ok (.invokevirtual 89, 3) := by decide +kernel
theorem dX9_cancelsOne_5 : decode cX9_cancelsOne 5 = .ok (.ifCond .ne 5, 3) := by decide +kernel
theorem dX9_cancelsOne_8 : decode cX9_cancelsOne 8 = .ok (.iconst (-1), 1) := by decide +kernel
theorem dX9_cancelsOne_9 : decode cX9_cancelsOne 9 = .ok (.ireturn, 1) := by decide +kernel
theorem dX9_cancelsOne_10 : decode cX9_cancelsOne 10 = .ok (.aload_n 0, 1) := by decide +kernel
theorem dX9_cancelsOne_11 : decode cX9_cancelsOne 11 = .ok (.sipush 215, 3) := by decide +kernel
theorem dX9_cancelsOne_14 : decode cX9_cancelsOne 14 = .ok (.iload_n 1, 1) := by decide +kernel
theorem dX9_cancelsOne_15 : decode cX9_cancelsOne 15 = .ok (.iadd, 1) := by decide +kernel
theorem dX9_cancelsOne_16 : decode cX9_cancelsOne 16 = .ok (.iconst 0, 1) := by decide +kernel
theorem dX9_cancelsOne_17 : decode cX9_cancelsOne 17 = .ok (.invokevirtual 76, 3) := by decide +kernel
theorem dX9_cancelsOne_20 : decode cX9_cancelsOne 20 = .ok (.aload_n 0, 1) := by decide +kernel
theorem dX9_cancelsOne_21 : decode cX9_cancelsOne 21 = .ok (.bipush 10, 2) := by decide +kernel
theorem dX9_cancelsOne_23 : decode cX9_cancelsOne 23 = .ok (.iconst 1, 1) := by decide +kernel
theorem dX9_cancelsOne_24 : decode cX9_cancelsOne 24 = .ok (.invokevirtual 106, 3) := by decide +kernel
theorem dX9_cancelsOne_27 : decode cX9_cancelsOne 27 = .ok (.aload_n 0, 1) := by decide +kernel
theorem dX9_cancelsOne_28 : decode cX9_cancelsOne 28 = .ok (.invokevirtual 213, 3) := by decide +kernel
theorem dX9_cancelsOne_31 : decode cX9_cancelsOne 31 = .ok (.ireturn, 1) := by decide +kernel
theorem dX9_cancels_0 : decode cX9_cancels 0 = .ok (.aload_n 0, 1) := by decide +kernel
theorem dX9_cancels_1 : decode cX9_cancels 1 = .ok (.iconst 0, 1) := by decide +kernel
theorem dX9_cancels_2 : decode cX9_cancels 2 = .ok (.putfield 1, 3) := by decide +kernel
theorem dX9_cancels_5 : decode cX9_cancels 5 = .ok (.aload_n 0, 1) := by decide +kernel
theorem dX9_cancels_6 : decode cX9_cancels 6 = .ok (.iload_n 1, 1) := by decide +kernel
theorem dX9_cancels_7 : decode cX9_cancels 7 = .ok (.invokevirtual 216, 3) := by decide +kernel
theorem dX9_cancels_10 : decode cX9_cancels 10 = .ok (.ireturn, 1) := by decide +kernel
theorem dX9_cancelsAll_0 : decode cX9_cancelsAll 0 = .ok (.aload_n 0, 1) := by decide +kernel
theorem dX9_cancelsAll_1 : decode cX9_cancelsAll 1 = .ok (.iconst 0, 1) := by decide +kernel
theorem dX9_cancelsAll_2 : decode cX9_cancelsAll 2 = .ok (.putfield 1, 3) := by decide +kernel
theorem dX9_cancelsAll_5 : decode cX9_cancelsAll 5 = .ok (.iload_n 1, 1) := by decide +kernel
theorem dX9_cancelsAll_6 : decode cX9_cancelsAll 6 = .ok (.i2l, 1) := by decide +kernel
theorem dX9_cancelsAll_7 : decode cX9_cancelsAll 7 = .ok (.lconst 0, 1) := by decide +kernel
theorem dX9_cancelsAll_8 : decode cX9_cancelsAll 8 = .ok (.ldc2_w 201, 3) := by decide +kernel
theorem dX9_cancelsAll_11 : decode cX9_cancelsAll 11 = .ok (.invokestatic 21, 3) := by decide +kernel
theorem dX9_cancelsAll_14 : decode cX9_cancelsAll 14 = .ok (.ifCond .ne 5, 3) := by decide +kernel
theorem dX9_cancelsAll_17 : decode cX9_cancelsAll 17 = .ok (.iconst (-1), 1) := by decide +kernel
theorem dX9_cancelsAll_18 : decode cX9_cancelsAll 18 = .ok (.ireturn, 1) := by decide +kernel
theorem dX9_cancelsAll_19 : decode cX9_cancelsAll 19 = .ok (.iconst 0, 1) := by decide +kernel
theorem dX9_cancelsAll_20 : decode cX9_cancelsAll 20 = .ok (.istore_n 2, 1) := by decide +kernel
theorem dX9_cancelsAll_21 : decode cX9_cancelsAll 21 = .ok (.iconst 0, 1) := by decide +kernel
theorem dX9_cancelsAll_22 : decode cX9_cancelsAll 22 = .ok (.istore_n 3, 1) := by decide +kernel
theorem dX9_cancelsAll_23 : decode cX9_cancelsAll 23 = .ok (.iload_n 3, 1) := by decide +kernel
theorem dX9_cancelsAll_24 : decode cX9_cancelsAll 24 = .ok (.bipush 16, 2) := by decide +kernel
theorem dX9_cancelsAll_26 : decode cX9_cancelsAll 26 = .ok (.if_icmp .ge 40, 3) := by decide +kernel
theorem dX9_cancelsAll_29 : decode cX9_cancelsAll 29 = .ok (.aload_n 0, 1) := by decide +kernel
theorem dX9_cancelsAll_30 : decode cX9_cancelsAll 30 = .ok (.iload_n 3, 1) := by decide +kernel
theorem dX9_cancelsAll_31 : decode cX9_cancelsAll 31 = .ok (.invokevirtual 89, 3) := by decide +kernel
theorem dX9_cancelsAll_34 : decode cX9_cancelsAll 34 = .ok (.ifCond .eq 26, 3) := by decide +kernel
theorem dX9_cancelsAll_37 : decode cX9_cancelsAll 37 = .ok (.aload_n 0, 1) := by decide +kernel
theorem dX9_cancelsAll_38 : decode cX9_cancelsAll 38 = .ok (.sipush 263, 3) := by decide +kernel
theorem dX9_cancelsAll_41 : decode cX9_cancelsAll 41 = .ok (.iload_n 3, 1) := by decide +kernel
theorem dX9_cancelsAll_42 : decode cX9_cancelsAll 42 = .ok (.iadd, 1) := by decide +kernel
theorem dX9_cancelsAll_43 : decode cX9_cancelsAll 43 = .ok (.invokevirtual 85, 3) := by decide +kernel
theorem dX9_cancelsAll_46 : decode cX9_cancelsAll 46 = .ok (.iload_n 1, 1) := by decide +kernel
theorem dX9_cancelsAll_47 : decode cX9_cancelsAll 47 = .ok (.if_icmp .ne 13, 3) := by decide +kernel
theorem dX9_cancelsAll_50 : decode cX9_cancelsAll 50 = .ok (.aload_n 0, 1) := by decide +kernel
theorem dX9_cancelsAll_51 : decode cX9_cancelsAll 51 = .ok (.iload_n 3, 1) := by decide +kernel
theorem dX9_cancelsAll_52 : decode cX9_cancelsAll 52 = .ok (.invokevirtual 216, 3) := by decide +kernel
theorem dX9_cancelsAll_55 : decode cX9_cancelsAll 55 = .ok (.istore 4, 2) := by decide +kernel
theorem dX9_cancelsAll_57 : decode cX9_cancelsAll 57 = .ok (.iinc 2 1, 3) := by decide +kernel
theorem dX9_cancelsAll_60 : decode cX9_cancelsAll 60 = .ok (.iinc 3 1, 3) := by decide +kernel
theorem dX9_cancelsAll_63 : decode cX9_cancelsAll 63 = .ok (.goto (-40), 3) := by decide +kernel
theorem dX9_cancelsAll_66 : decode cX9_cancelsAll 66 = .ok (.iload_n 2, 1) := by decide +kernel
theorem dX9_cancelsAll_67 : decode cX9_cancelsAll 67 = .ok (.ireturn, 1) := by decide +kernel
theorem dX9_steady_0 : decode cX9_steady 0 = .ok (.aload_n 0, 1) := by decide +kernel
theorem dX9_steady_1 : decode cX9_steady 1 = .ok (.iconst 0, 1) := by decide +kernel
theorem dX9_steady_2 : decode cX9_steady 2 = .ok (.putfield 1, 3) := by decide +kernel
theorem dX9_steady_5 : decode cX9_steady 5 = .ok (.aload_n 0, 1) := by decide +kernel
theorem dX9_steady_6 : decode cX9_steady 6 = .ok (.iload_n 1, 1) := by decide +kernel
theorem dX9_steady_7 : decode cX9_steady 7 = .ok (.invokevirtual 89, 3) := by decide +kernel
theorem dX9_steady_10 : decode cX9_steady 10 = .ok (.ifCond .ne 5, 3) := by decide +kernel
theorem dX9_steady_13 : decode cX9_steady 13 = .ok (.iconst (-1), 1) := by decide +kernel
theorem dX9_steady_14 : decode cX9_steady 14 = .ok (.ireturn, 1) := by decide +kernel
theorem dX9_steady_15 : decode cX9_steady 15 = .ok (.aload_n 0, 1) := by decide +kernel
theorem dX9_steady_16 : decode cX9_steady 16 = .ok (.sipush 327, 3) := by decide +kernel
theorem dX9_steady_19 : decode cX9_steady 19 = .ok (.iload_n 1, 1) := by decide +kernel
theorem dX9_steady_20 : decode cX9_steady 20 = .ok (.iadd, 1) := by decide +kernel
theorem dX9_steady_21 : decode cX9_steady 21 = .ok (.invokevirtual 85, 3) := by decide +kernel
theorem dX9_steady_24 : decode cX9_steady 24 = .ok (.istore_n 3, 1) := by decide +kernel
theorem dX9_steady_25 : decode cX9_steady 25 = .ok (.iload_n 3, 1) := by decide +kernel
theorem dX9_steady_26 : decode cX9_steady 26 = .ok (.iload_n 2, 1) := by decide +kernel
theorem dX9_steady_27 : decode cX9_steady 27 = .ok (.invokestatic 31, 3) := by decide +kernel
theorem dX9_steady_30 : decode cX9_steady 30 = .ok (.if_icmp .ne 6, 3) := by decide +kernel
theorem dX9_steady_33 : decode cX9_steady 33 = .ok (.bipush (-2), 2) := by decide +kernel
theorem dX9_steady_35 : decode cX9_steady 35 = .ok (.ireturn, 1) := by decide +kernel
theorem dX9_steady_36 : decode cX9_steady 36 = .ok (.aload_n 0, 1) := by decide +kernel
theorem dX9_steady_37 : decode cX9_steady 37 = .ok (.sipush 327, 3) := by decide +kernel
theorem dX9_steady_40 : decode cX9_steady 40 = .ok (.iload_n 1, 1) := by decide +kernel
theorem dX9_steady_41 : decode cX9_steady 41 = .ok (.iadd, 1) := by decide +kernel
theorem dX9_steady_42 : decode cX9_steady 42 = .ok (.iload_n 2, 1) := by decide +kernel
theorem dX9_steady_43 : decode cX9_steady 43 = .ok (.invokestatic 31, 3) := by decide +kernel
theorem dX9_steady_46 : decode cX9_steady 46 = .ok (.invokevirtual 76, 3) := by decide +kernel
theorem dX9_steady_49 : decode cX9_steady 49 = .ok (.iload_n 3, 1) := by decide +kernel
theorem dX9_steady_50 : decode cX9_steady 50 = .ok (.ireturn, 1) := by decide +kernel
theorem dX9_pauses_0 : decode cX9_pauses 0 = .ok (.aload_n 0, 1) := by decide +kernel
theorem dX9_pauses_1 : decode cX9_pauses 1 = .ok (.iconst 0, 1) := by decide +kernel
theorem dX9_pauses_2 : decode cX9_pauses 2 = .ok (.putfield 1, 3) := by decide +kernel
theorem dX9_pauses_5 : decode cX9_pauses 5 = .ok (.aload_n 0, 1) := by decide +kernel
theorem dX9_pauses_6 : decode cX9_pauses 6 = .ok (.iload_n 1, 1) := by decide +kernel
theorem dX9_pauses_7 : decode cX9_pauses 7 = .ok (.invokevirtual 89, 3) := by decide +kernel
theorem dX9_pauses_10 : decode cX9_pauses 10 = .ok (.ifCond .ne 5, 3) := by decide +kernel
theorem dX9_pauses_13 : decode cX9_pauses 13 = .ok (.iconst (-1), 1) := by decide +kernel
theorem dX9_pauses_14 : decode cX9_pauses 14 = .ok (.ireturn, 1) := by decide +kernel
theorem dX9_pauses_15 : decode cX9_pauses 15 = .ok (.aload_n 0, 1) := by decide +kernel
theorem dX9_pauses_16 : decode cX9_pauses 16 = .ok (.sipush 343, 3) := by decide +kernel
theorem dX9_pauses_19 : decode cX9_pauses 19 = .ok (.iload_n 1, 1) := by decide +kernel
theorem dX9_pauses_20 : decode cX9_pauses 20 = .ok (.iadd, 1) := by decide +kernel
theorem dX9_pauses_21 : decode cX9_pauses 21 = .ok (.invokevirtual 85, 3) := by decide +kernel
theorem dX9_pauses_24 : decode cX9_pauses 24 = .ok (.iconst 1, 1) := by decide +kernel
theorem dX9_pauses_25 : decode cX9_pauses 25 = .ok (.if_icmp .ne 6, 3) := by decide +kernel
theorem dX9_pauses_28 : decode cX9_pauses 28 = .ok (.bipush (-2), 2) := by decide +kernel
theorem dX9_pauses_30 : decode cX9_pauses 30 = .ok (.ireturn, 1) := by decide +kernel
theorem dX9_pauses_31 : decode cX9_pauses 31 = .ok (.aload_n 0, 1) := by decide +kernel
theorem dX9_pauses_32 : decode cX9_pauses 32 = .ok (.iload_n 1, 1) := by decide +kernel
theorem dX9_pauses_33 : decode cX9_pauses 33 = .ok (.invokevirtual 219, 3) := by decide +kernel
theorem dX9_pauses_36 : decode cX9_pauses 36 = .ok (.aload_n 0, 1) := by decide +kernel
theorem dX9_pauses_37 : decode cX9_pauses 37 = .ok (.sipush 359, 3) := by decide +kernel
theorem dX9_pauses_40 : decode cX9_pauses 40 = .ok (.iload_n 1, 1) := by decide +kernel
theorem dX9_pauses_41 : decode cX9_pauses 41 = .ok (.iadd, 1) := by decide +kernel
theorem dX9_pauses_42 : decode cX9_pauses 42 = .ok (.invokevirtual 85, 3) := by decide +kernel
theorem dX9_pauses_45 : decode cX9_pauses 45 = .ok (.ireturn, 1) := by decide +kernel
theorem dX9_resumes_0 : decode cX9_resumes 0 = .ok (.aload_n 0, 1) := by decide +kernel
theorem dX9_resumes_1 : decode cX9_resumes 1 = .ok (.iconst 0, 1) := by decide +kernel
theorem dX9_resumes_2 : decode cX9_resumes 2 = .ok (.putfield 1, 3) := by decide +kernel
theorem dX9_resumes_5 : decode cX9_resumes 5 = .ok (.aload_n 0, 1) := by decide +kernel
theorem dX9_resumes_6 : decode cX9_resumes 6 = .ok (.iload_n 1, 1) := by decide +kernel
theorem dX9_resumes_7 : decode cX9_resumes 7 = .ok (.invokevirtual 89, 3) := by decide +kernel
theorem dX9_resumes_10 : decode cX9_resumes 10 = .ok (.ifCond .ne 5, 3) := by decide +kernel
theorem dX9_resumes_13 : decode cX9_resumes 13 = .ok (.iconst (-1), 1) := by decide +kernel
theorem dX9_resumes_14 : decode cX9_resumes 14 = .ok (.ireturn, 1) := by decide +kernel
theorem dX9_resumes_15 : decode cX9_resumes 15 = .ok (.aload_n 0, 1) := by decide +kernel
theorem dX9_resumes_16 : decode cX9_resumes 16 = .ok (.sipush 343, 3) := by decide +kernel
theorem dX9_resumes_19 : decode cX9_resumes 19 = .ok (.iload_n 1, 1) := by decide +kernel
theorem dX9_resumes_20 : decode cX9_resumes 20 = .ok (.iadd, 1) := by decide +kernel
theorem dX9_resumes_21 : decode cX9_resumes 21 = .ok (.invokevirtual 85, 3) := by decide +kernel
theorem dX9_resumes_24 : decode cX9_resumes 24 = .ok (.ifCond .ne 6, 3) := by decide +kernel
theorem dX9_resumes_27 : decode cX9_resumes 27 = .ok (.bipush (-2), 2) := by decide +kernel
theorem dX9_resumes_29 : decode cX9_resumes 29 = .ok (.ireturn, 1) := by decide +kernel
theorem dX9_resumes_30 : decode cX9_resumes 30 = .ok (.aload_n 0, 1) := by decide +kernel
theorem dX9_resumes_31 : decode cX9_resumes 31 = .ok (.iload_n 1, 1) := by decide +kernel
theorem dX9_resumes_32 : decode cX9_resumes 32 = .ok (.invokevirtual 222, 3) := by decide +kernel
theorem dX9_resumes_35 : decode cX9_resumes 35 = .ok (.aload_n 0, 1) := by decide +kernel
theorem dX9_resumes_36 : decode cX9_resumes 36 = .ok (.sipush 231, 3) := by decide +kernel
theorem dX9_resumes_39 : decode cX9_resumes 39 = .ok (.iload_n 1, 1) := by decide +kernel
theorem dX9_resumes_40 : decode cX9_resumes 40 = .ok (.iadd, 1) := by decide +kernel
theorem dX9_resumes_41 : decode cX9_resumes 41 = .ok (.invokevirtual 85, 3) := by decide +kernel
theorem dX9_resumes_44 : decode cX9_resumes 44 = .ok (.ireturn, 1) := by decide +kernel
theorem dX9_delays_0 : decode cX9_delays 0 = .ok (.aload_n 0, 1) := by decide +kernel
theorem dX9_delays_1 : decode cX9_delays 1 = .ok (.iconst 0, 1) := by decide +kernel
theorem dX9_delays_2 : decode cX9_delays 2 = .ok (.putfield 1, 3) := by decide +kernel
theorem dX9_delays_5 : decode cX9_delays 5 = .ok (.aload_n 0, 1) := by decide +kernel
theorem dX9_delays_6 : decode cX9_delays 6 = .ok (.iload_n 1, 1) := by decide +kernel
theorem dX9_delays_7 : decode cX9_delays 7 = .ok (.invokevirtual 89, 3) := by decide +kernel
theorem dX9_delays_10 : decode cX9_delays 10 = .ok (.ifCond .eq 15, 3) := by decide +kernel
theorem dX9_delays_13 : decode cX9_delays 13 = .ok (.iload_n 2, 1) := by decide +kernel
theorem dX9_delays_14 : decode cX9_delays 14 = .ok (.i2l, 1) := by decide +kernel
theorem dX9_delays_15 : decode cX9_delays 15 = .ok (.lconst 1, 1) := by decide +kernel
theorem dX9_delays_16 : decode cX9_delays 16 = .ok (.ldc2_w 193, 3) := by decide +kernel
theorem dX9_delays_19 : decode cX9_delays 19 = .ok (.invokestatic 21, 3) := by decide +kernel
theorem dX9_delays_22 : decode cX9_delays 22 = .ok (.ifCond .ne 5, 3) := by decide +kernel
theorem dX9_delays_25 : decode cX9_delays 25 = .ok (.iconst (-1), 1) := by decide +kernel
theorem dX9_delays_26 : decode cX9_delays 26 = .ok (.ireturn, 1) := by decide +kernel
theorem dX9_delays_27 : decode cX9_delays 27 = .ok (.aload_n 0, 1) := by decide +kernel
theorem dX9_delays_28 : decode cX9_delays 28 = .ok (.sipush 343, 3) := by decide +kernel
theorem dX9_delays_31 : decode cX9_delays 31 = .ok (.iload_n 1, 1) := by decide +kernel
theorem dX9_delays_32 : decode cX9_delays 32 = .ok (.iadd, 1) := by decide +kernel
theorem dX9_delays_33 : decode cX9_delays 33 = .ok (.invokevirtual 85, 3) := by decide +kernel
theorem dX9_delays_36 : decode cX9_delays 36 = .ok (.iconst 1, 1) := by decide +kernel
theorem dX9_delays_37 : decode cX9_delays 37 = .ok (.if_icmp .ne 7, 3) := by decide +kernel
theorem dX9_delays_40 : decode cX9_delays 40 = .ok (.iconst 1, 1) := by decide +kernel
theorem dX9_delays_41 : decode cX9_delays 41 = .ok (.goto 4, 3) := by decide +kernel
theorem dX9_delays_44 : decode cX9_delays 44 = .ok (.iconst 0, 1) := by decide +kernel
theorem dX9_delays_45 : decode cX9_delays 45 = .ok (.istore_n 3, 1) := by decide +kernel
theorem dX9_delays_46 : decode cX9_delays 46 = .ok (.iload_n 3, 1) := by decide +kernel
theorem dX9_delays_47 : decode cX9_delays 47 = .ok (.ifCond .eq 15, 3) := by decide +kernel
theorem dX9_delays_50 : decode cX9_delays 50 = .ok (.aload_n 0, 1) := by decide +kernel
theorem dX9_delays_51 : decode cX9_delays 51 = .ok (.sipush 359, 3) := by decide +kernel
theorem dX9_delays_54 : decode cX9_delays 54 = .ok (.iload_n 1, 1) := by decide +kernel
theorem dX9_delays_55 : decode cX9_delays 55 = .ok (.iadd, 1) := by decide +kernel
theorem dX9_delays_56 : decode cX9_delays 56 = .ok (.invokevirtual 85, 3) := by decide +kernel
theorem dX9_delays_59 : decode cX9_delays 59 = .ok (.goto 19, 3) := by decide +kernel
theorem dX9_delays_62 : decode cX9_delays 62 = .ok (.aload_n 0, 1) := by decide +kernel
theorem dX9_delays_63 : decode cX9_delays 63 = .ok (.sipush 231, 3) := by decide +kernel
theorem dX9_delays_66 : decode cX9_delays 66 = .ok (.iload_n 1, 1) := by decide +kernel
theorem dX9_delays_67 : decode cX9_delays 67 = .ok (.iadd, 1) := by decide +kernel
theorem dX9_delays_68 : decode cX9_delays 68 = .ok (.invokevirtual 85, 3) := by decide +kernel
theorem dX9_delays_71 : decode cX9_delays 71 = .ok (.aload_n 0, 1) := by decide +kernel
theorem dX9_delays_72 : decode cX9_delays 72 = .ok (.bipush 6, 2) := by decide +kernel
theorem dX9_delays_74 : decode cX9_delays 74 = .ok (.invokevirtual 85, 3) := by decide +kernel
theorem dX9_delays_77 : decode cX9_delays 77 = .ok (.isub, 1) := by decide +kernel
theorem dX9_delays_78 : decode cX9_delays 78 = .ok (.istore 4, 2) := by decide +kernel
theorem dX9_delays_80 : decode cX9_delays 80 = .ok (.iload 4, 2) := by decide +kernel
theorem dX9_delays_82 : decode cX9_delays 82 = .ok (.iload_n 2, 1) := by decide +kernel
theorem dX9_delays_83 : decode cX9_delays 83 = .ok (.if_icmp .ne 6, 3) := by decide +kernel
theorem dX9_delays_86 : decode cX9_delays 86 = .ok (.bipush (-2), 2) := by decide +kernel
theorem dX9_delays_88 : decode cX9_delays 88 = .ok (.ireturn, 1) := by decide +kernel
theorem dX9_delays_89 : decode cX9_delays 89 = .ok (.iload_n 3, 1) := by decide +kernel
theorem dX9_delays_90 : decode cX9_delays 90 = .ok (.ifCond .eq 16, 3) := by decide +kernel
theorem dX9_delays_93 : decode cX9_delays 93 = .ok (.aload_n 0, 1) := by decide +kernel
theorem dX9_delays_94 : decode cX9_delays 94 = .ok (.sipush 359, 3) := by decide +kernel
theorem dX9_delays_97 : decode cX9_delays 97 = .ok (.iload_n 1, 1) := by decide +kernel
theorem dX9_delays_98 : decode cX9_delays 98 = .ok (.iadd, 1) := by decide +kernel
theorem dX9_delays_99 : decode cX9_delays 99 = .ok (.iload_n 2, 1) := by decide +kernel
theorem dX9_delays_100 : decode cX9_delays 100 = .ok (.invokevirtual 76, 3) := by decide +kernel
theorem dX9_delays_103 : decode cX9_delays 103 = .ok (.goto 25, 3) := by decide +kernel
theorem dX9_delays_106 : decode cX9_delays 106 = .ok (.aload_n 0, 1) := by decide +kernel
theorem dX9_delays_107 : decode cX9_delays 107 = .ok (.sipush 231, 3) := by decide +kernel
theorem dX9_delays_110 : decode cX9_delays 110 = .ok (.iload_n 1, 1) := by decide +kernel
theorem dX9_delays_111 : decode cX9_delays 111 = .ok (.iadd, 1) := by decide +kernel
theorem dX9_delays_112 : decode cX9_delays 112 = .ok (.aload_n 0, 1) := by decide +kernel
theorem dX9_delays_113 : decode cX9_delays 113 = .ok (.bipush 6, 2) := by decide +kernel
theorem dX9_delays_115 : decode cX9_delays 115 = .ok (.invokevirtual 85, 3) := by decide +kernel
theorem dX9_delays_118 : decode cX9_delays 118 = .ok (.iload_n 2, 1) := by decide +kernel
theorem dX9_delays_119 : decode cX9_delays 119 = .ok (.iadd, 1) := by decide +kernel
theorem dX9_delays_120 : decode cX9_delays 120 = .ok (.invokevirtual 76, 3) := by decide +kernel
theorem dX9_delays_123 : decode cX9_delays 123 = .ok (.aload_n 0, 1) := by decide +kernel
theorem dX9_delays_124 : decode cX9_delays 124 = .ok (.iload_n 1, 1) := by decide +kernel
theorem dX9_delays_125 : decode cX9_delays 125 = .ok (.invokevirtual 102, 3) := by decide +kernel
theorem dX9_delays_128 : decode cX9_delays 128 = .ok (.aload_n 0, 1) := by decide +kernel
theorem dX9_delays_129 : decode cX9_delays 129 = .ok (.iconst 0, 1) := by decide +kernel
theorem dX9_delays_130 : decode cX9_delays 130 = .ok (.putfield 11, 3) := by decide +kernel
theorem dX9_delays_133 : decode cX9_delays 133 = .ok (.aload_n 0, 1) := by decide +kernel
theorem dX9_delays_134 : decode cX9_delays 134 = .ok (.iload_n 2, 1) := by decide +kernel
theorem dX9_delays_135 : decode cX9_delays 135 = .ok (.iload 4, 2) := by decide +kernel
theorem dX9_delays_137 : decode cX9_delays 137 = .ok (.isub, 1) := by decide +kernel
theorem dX9_delays_138 : decode cX9_delays 138 = .ok (.i2l, 1) := by decide +kernel
theorem dX9_delays_139 : decode cX9_delays 139 = .ok (.invokevirtual 153, 3) := by decide +kernel
theorem dX9_delays_142 : decode cX9_delays 142 = .ok (.iconst 0, 1) := by decide +kernel
theorem dX9_delays_143 : decode cX9_delays 143 = .ok (.ireturn, 1) := by decide +kernel
theorem dX9_isGroup_0 : decode cX9_isGroup 0 = .ok (.iload_n 0, 1) := by decide +kernel
theorem dX9_isGroup_1 : decode cX9_isGroup 1 = .ok (.i2l, 1) := by decide +kernel
theorem dX9_isGroup_2 : decode cX9_isGroup 2 = .ok (.lconst 0, 1) := by decide +kernel
theorem dX9_isGroup_3 : decode cX9_isGroup 3 = .ok (.ldc2_w 201, 3) := by decide +kernel
theorem dX9_isGroup_6 : decode cX9_isGroup 6 = .ok (.invokestatic 21, 3) := by decide +kernel
theorem dX9_isGroup_9 : decode cX9_isGroup 9 = .ok (.ireturn, 1) := by decide +kernel
theorem dX9_pausesOne_0 : decode cX9_pausesOne 0 = .ok (.aload_n 0, 1) := by decide +kernel
theorem dX9_pausesOne_1 : decode cX9_pausesOne 1 = .ok (.sipush 343, 3) := by decide +kernel
theorem dX9_pausesOne_4 : decode cX9_pausesOne 4 = .ok (.iload_n 1, 1) := by decide +kernel
theorem dX9_pausesOne_5 : decode cX9_pausesOne 5 = .ok (.iadd, 1) := by decide +kernel
theorem dX9_pausesOne_6 : decode cX9_pausesOne 6 = .ok (.iconst 1, 1) := by decide +kernel
theorem dX9_pausesOne_7 : decode cX9_pausesOne 7 = .ok (.invokevirtual 76, 3) := by decide +kernel
theorem dX9_pausesOne_10 : decode cX9_pausesOne 10 = .ok (.aload_n 0, 1) := by decide +kernel
theorem dX9_pausesOne_11 : decode cX9_pausesOne 11 = .ok (.sipush 359, 3) := by decide +kernel
theorem dX9_pausesOne_14 : decode cX9_pausesOne 14 = .ok (.iload_n 1, 1) := by decide +kernel
theorem dX9_pausesOne_15 : decode cX9_pausesOne 15 = .ok (.iadd, 1) := by decide +kernel
theorem dX9_pausesOne_16 : decode cX9_pausesOne 16 = .ok (.aload_n 0, 1) := by decide +kernel
theorem dX9_pausesOne_17 : decode cX9_pausesOne 17 = .ok (.sipush 231, 3) := by decide +kernel
theorem dX9_pausesOne_20 : decode cX9_pausesOne 20 = .ok (.iload_n 1, 1) := by decide +kernel
theorem dX9_pausesOne_21 : decode cX9_pausesOne 21 = .ok (.iadd, 1) := by decide +kernel
theorem dX9_pausesOne_22 : decode cX9_pausesOne 22 = .ok (.invokevirtual 85, 3) := by decide +kernel
theorem dX9_pausesOne_25 : decode cX9_pausesOne 25 = .ok (.aload_n 0, 1) := by decide +kernel
theorem dX9_pausesOne_26 : decode cX9_pausesOne 26 = .ok (.bipush 6, 2) := by decide +kernel
theorem dX9_pausesOne_28 : decode cX9_pausesOne 28 = .ok (.invokevirtual 85, 3) := by decide +kernel
theorem dX9_pausesOne_31 : decode cX9_pausesOne 31 = .ok (.isub, 1) := by decide +kernel
theorem dX9_pausesOne_32 : decode cX9_pausesOne 32 = .ok (.invokevirtual 76, 3) := by decide +kernel
theorem dX9_pausesOne_35 : decode cX9_pausesOne 35 = .ok (.return_, 1) := by decide +kernel
theorem dX9_resumesOne_0 : decode cX9_resumesOne 0 = .ok (.aload_n 0, 1) := by decide +kernel
theorem dX9_resumesOne_1 : decode cX9_resumesOne 1 = .ok (.sipush 343, 3) := by decide +kernel
theorem dX9_resumesOne_4 : decode cX9_resumesOne 4 = .ok (.iload_n 1, 1) := by decide +kernel
theorem dX9_resumesOne_5 : decode cX9_resumesOne 5 = .ok (.iadd, 1) := by decide +kernel
theorem dX9_resumesOne_6 : decode cX9_resumesOne 6 = .ok (.iconst 0, 1) := by decide +kernel
theorem dX9_resumesOne_7 : decode cX9_resumesOne 7 = .ok (.invokevirtual 76, 3) := by decide +kernel
theorem dX9_resumesOne_10 : decode cX9_resumesOne 10 = .ok (.aload_n 0, 1) := by decide +kernel
theorem dX9_resumesOne_11 : decode cX9_resumesOne 11 = .ok (.sipush 231, 3) := by decide +kernel
theorem dX9_resumesOne_14 : decode cX9_resumesOne 14 = .ok (.iload_n 1, 1) := by decide +kernel
theorem dX9_resumesOne_15 : decode cX9_resumesOne 15 = .ok (.iadd, 1) := by decide +kernel
theorem dX9_resumesOne_16 : decode cX9_resumesOne 16 = .ok (.aload_n 0, 1) := by decide +kernel
theorem dX9_resumesOne_17 : decode cX9_resumesOne 17 = .ok (.bipush 6, 2) := by decide +kernel
theorem dX9_resumesOne_19 : decode cX9_resumesOne 19 = .ok (.invokevirtual 85, 3) := by decide +kernel
theorem dX9_resumesOne_22 : decode cX9_resumesOne 22 = .ok (.aload_n 0, 1) := by decide +kernel
theorem dX9_resumesOne_23 : decode cX9_resumesOne 23 = .ok (.sipush 359, 3) := by decide +kernel
theorem dX9_resumesOne_26 : decode cX9_resumesOne 26 = .ok (.iload_n 1, 1) := by decide +kernel
theorem dX9_resumesOne_27 : decode cX9_resumesOne 27 = .ok (.iadd, 1) := by decide +kernel
theorem dX9_resumesOne_28 : decode cX9_resumesOne 28 = .ok (.invokevirtual 85, 3) := by decide +kernel
theorem dX9_resumesOne_31 : decode cX9_resumesOne 31 = .ok (.iadd, 1) := by decide +kernel
theorem dX9_resumesOne_32 : decode cX9_resumesOne 32 = .ok (.invokevirtual 76, 3) := by decide +kernel
theorem dX9_resumesOne_35 : decode cX9_resumesOne 35 = .ok (.aload_n 0, 1) := by decide +kernel
theorem dX9_resumesOne_36 : decode cX9_resumesOne 36 = .ok (.iload_n 1, 1) := by decide +kernel
theorem dX9_resumesOne_37 : decode cX9_resumesOne 37 = .ok (.invokevirtual 102, 3) := by decide +kernel
theorem dX9_resumesOne_40 : decode cX9_resumesOne 40 = .ok (.return_, 1) := by decide +kernel
theorem dX9_holds_0 : decode cX9_holds 0 = .ok (.aload_n 0, 1) := by decide +kernel
theorem dX9_holds_1 : decode cX9_holds 1 = .ok (.iconst 0, 1) := by decide +kernel
theorem dX9_holds_2 : decode cX9_holds 2 = .ok (.putfield 1, 3) := by decide +kernel
theorem dX9_holds_5 : decode cX9_holds 5 = .ok (.iload_n 1, 1) := by decide +kernel
theorem dX9_holds_6 : decode cX9_holds 6 = .ok (.invokestatic 225, 3) := by decide +kernel
theorem dX9_holds_9 : decode cX9_holds 9 = .ok (.ifCond .ne 5, 3) := by decide +kernel
theorem dX9_holds_12 : decode cX9_holds 12 = .ok (.iconst (-1), 1) := by decide +kernel
theorem dX9_holds_13 : decode cX9_holds 13 = .ok (.ireturn, 1) := by decide +kernel
theorem dX9_holds_14 : decode cX9_holds 14 = .ok (.iconst 0, 1) := by decide +kernel
theorem dX9_holds_15 : decode cX9_holds 15 = .ok (.istore_n 2, 1) := by decide +kernel
theorem dX9_holds_16 : decode cX9_holds 16 = .ok (.iconst 0, 1) := by decide +kernel
theorem dX9_holds_17 : decode cX9_holds 17 = .ok (.istore_n 3, 1) := by decide +kernel
theorem dX9_holds_18 : decode cX9_holds 18 = .ok (.iload_n 3, 1) := by decide +kernel
theorem dX9_holds_19 : decode cX9_holds 19 = .ok (.bipush 16, 2) := by decide +kernel
theorem dX9_holds_21 : decode cX9_holds 21 = .ok (.if_icmp .ge 38, 3) := by decide +kernel
theorem dX9_holds_24 : decode cX9_holds 24 = .ok (.aload_n 0, 1) := by decide +kernel
theorem dX9_holds_25 : decode cX9_holds 25 = .ok (.iload_n 3, 1) := by decide +kernel
theorem dX9_holds_26 : decode cX9_holds 26 = .ok (.invokevirtual 99, 3) := by decide +kernel
theorem dX9_holds_29 : decode cX9_holds 29 = .ok (.ifCond .eq 24, 3) := by decide +kernel
theorem dX9_holds_32 : decode cX9_holds 32 = .ok (.aload_n 0, 1) := by decide +kernel
theorem dX9_holds_33 : decode cX9_holds 33 = .ok (.sipush 263, 3) := by decide +kernel
theorem dX9_holds_36 : decode cX9_holds 36 = .ok (.iload_n 3, 1) := by decide +kernel
theorem dX9_holds_37 : decode cX9_holds 37 = .ok (.iadd, 1) := by decide +kernel
theorem dX9_holds_38 : decode cX9_holds 38 = .ok (.invokevirtual 85, 3) := by decide +kernel
theorem dX9_holds_41 : decode cX9_holds 41 = .ok (.iload_n 1, 1) := by decide +kernel
theorem dX9_holds_42 : decode cX9_holds 42 = .ok (.if_icmp .ne 11, 3) := by decide +kernel
theorem dX9_holds_45 : decode cX9_holds 45 = .ok (.aload_n 0, 1) := by decide +kernel
theorem dX9_holds_46 : decode cX9_holds 46 = .ok (.iload_n 3, 1) := by decide +kernel
theorem dX9_holds_47 : decode cX9_holds 47 = .ok (.invokevirtual 219, 3) := by decide +kernel
theorem dX9_holds_50 : decode cX9_holds 50 = .ok (.iinc 2 1, 3) := by decide +kernel
theorem dX9_holds_53 : decode cX9_holds 53 = .ok (.iinc 3 1, 3) := by decide +kernel
theorem dX9_holds_56 : decode cX9_holds 56 = .ok (.goto (-38), 3) := by decide +kernel
theorem dX9_holds_59 : decode cX9_holds 59 = .ok (.iload_n 2, 1) := by decide +kernel
theorem dX9_holds_60 : decode cX9_holds 60 = .ok (.ireturn, 1) := by decide +kernel
theorem dX9_goesOn_0 : decode cX9_goesOn 0 = .ok (.aload_n 0, 1) := by decide +kernel
theorem dX9_goesOn_1 : decode cX9_goesOn 1 = .ok (.iconst 0, 1) := by decide +kernel
theorem dX9_goesOn_2 : decode cX9_goesOn 2 = .ok (.putfield 1, 3) := by decide +kernel
theorem dX9_goesOn_5 : decode cX9_goesOn 5 = .ok (.iload_n 1, 1) := by decide +kernel
theorem dX9_goesOn_6 : decode cX9_goesOn 6 = .ok (.invokestatic 225, 3) := by decide +kernel
theorem dX9_goesOn_9 : decode cX9_goesOn 9 = .ok (.ifCond .ne 5, 3) := by decide +kernel
theorem dX9_goesOn_12 : decode cX9_goesOn 12 = .ok (.iconst (-1), 1) := by decide +kernel
theorem dX9_goesOn_13 : decode cX9_goesOn 13 = .ok (.ireturn, 1) := by decide +kernel
theorem dX9_goesOn_14 : decode cX9_goesOn 14 = .ok (.iconst 0, 1) := by decide +kernel
theorem dX9_goesOn_15 : decode cX9_goesOn 15 = .ok (.istore_n 2, 1) := by decide +kernel
theorem dX9_goesOn_16 : decode cX9_goesOn 16 = .ok (.iconst 0, 1) := by decide +kernel
theorem dX9_goesOn_17 : decode cX9_goesOn 17 = .ok (.istore_n 3, 1) := by decide +kernel
theorem dX9_goesOn_18 : decode cX9_goesOn 18 = .ok (.iload_n 3, 1) := by decide +kernel
theorem dX9_goesOn_19 : decode cX9_goesOn 19 = .ok (.bipush 16, 2) := by decide +kernel
theorem dX9_goesOn_21 : decode cX9_goesOn 21 = .ok (.if_icmp .ge 46, 3) := by decide +kernel
theorem dX9_goesOn_24 : decode cX9_goesOn 24 = .ok (.aload_n 0, 1) := by decide +kernel
theorem dX9_goesOn_25 : decode cX9_goesOn 25 = .ok (.iload_n 3, 1) := by decide +kernel
theorem dX9_goesOn_26 : decode cX9_goesOn 26 = .ok (.invokevirtual 89, 3) := by decide +kernel
theorem dX9_goesOn_29 : decode cX9_goesOn 29 = .ok (.ifCond .eq 32, 3) := by decide +kernel
theorem dX9_goesOn_32 : decode cX9_goesOn 32 = .ok (.aload_n 0, 1) := by decide +kernel
theorem dX9_goesOn_33 : decode cX9_goesOn 33 = .ok (.iload_n 3, 1) := by decide +kernel
theorem dX9_goesOn_34 : decode cX9_goesOn 34 = .ok (.invokevirtual 99, 3) := by decide +kernel
theorem dX9_goesOn_37 : decode cX9_goesOn 37 = .ok (.ifCond .ne 24, 3) := by decide +kernel
theorem dX9_goesOn_40 : decode cX9_goesOn 40 = .ok (.aload_n 0, 1) := by decide +kernel
theorem dX9_goesOn_41 : decode cX9_goesOn 41 = .ok (.sipush 263, 3) := by decide +kernel
theorem dX9_goesOn_44 : decode cX9_goesOn 44 = .ok (.iload_n 3, 1) := by decide +kernel
theorem dX9_goesOn_45 : decode cX9_goesOn 45 = .ok (.iadd, 1) := by decide +kernel
theorem dX9_goesOn_46 : decode cX9_goesOn 46 = .ok (.invokevirtual 85, 3) := by decide +kernel
theorem dX9_goesOn_49 : decode cX9_goesOn 49 = .ok (.iload_n 1, 1) := by decide +kernel
theorem dX9_goesOn_50 : decode cX9_goesOn 50 = .ok (.if_icmp .ne 11, 3) := by decide +kernel
theorem dX9_goesOn_53 : decode cX9_goesOn 53 = .ok (.aload_n 0, 1) := by decide +kernel
theorem dX9_goesOn_54 : decode cX9_goesOn 54 = .ok (.iload_n 3, 1) := by decide +kernel
theorem dX9_goesOn_55 : decode cX9_goesOn 55 = .ok (.invokevirtual 222, 3) := by decide +kernel
theorem dX9_goesOn_58 : decode cX9_goesOn 58 = .ok (.iinc 2 1, 3) := by decide +kernel
theorem dX9_goesOn_61 : decode cX9_goesOn 61 = .ok (.iinc 3 1, 3) := by decide +kernel
theorem dX9_goesOn_64 : decode cX9_goesOn 64 = .ok (.goto (-46), 3) := by decide +kernel
theorem dX9_goesOn_67 : decode cX9_goesOn 67 = .ok (.iload_n 2, 1) := by decide +kernel
theorem dX9_goesOn_68 : decode cX9_goesOn 68 = .ok (.ireturn, 1) := by decide +kernel
theorem dX9_spreads_0 : decode cX9_spreads 0 = .ok (.aload_n 0, 1) := by decide +kernel
theorem dX9_spreads_1 : decode cX9_spreads 1 = .ok (.iconst 0, 1) := by decide +kernel
theorem dX9_spreads_2 : decode cX9_spreads 2 = .ok (.putfield 1, 3) := by decide +kernel
theorem dX9_spreads_5 : decode cX9_spreads 5 = .ok (.iload_n 1, 1) := by decide +kernel
theorem dX9_spreads_6 : decode cX9_spreads 6 = .ok (.invokestatic 225, 3) := by decide +kernel
theorem dX9_spreads_9 : decode cX9_spreads 9 = .ok (.ifCond .eq 15, 3) := by decide +kernel
theorem dX9_spreads_12 : decode cX9_spreads 12 = .ok (.iload_n 2, 1) := by decide +kernel
theorem dX9_spreads_13 : decode cX9_spreads 13 = .ok (.i2l, 1) := by decide +kernel
theorem dX9_spreads_14 : decode cX9_spreads 14 = .ok (.lconst 0, 1) := by decide +kernel
theorem dX9_spreads_15 : decode cX9_spreads 15 = .ok (.ldc2_w 205, 3) := by decide +kernel
theorem dX9_spreads_18 : decode cX9_spreads 18 = .ok (.invokestatic 21, 3) := by decide +kernel
theorem dX9_spreads_21 : decode cX9_spreads 21 = .ok (.ifCond .ne 5, 3) := by decide +kernel
theorem dX9_spreads_24 : decode cX9_spreads 24 = .ok (.iconst (-1), 1) := by decide +kernel
theorem dX9_spreads_25 : decode cX9_spreads 25 = .ok (.ireturn, 1) := by decide +kernel
theorem dX9_spreads_26 : decode cX9_spreads 26 = .ok (.aload_n 0, 1) := by decide +kernel
theorem dX9_spreads_27 : decode cX9_spreads 27 = .ok (.iconst 0, 1) := by decide +kernel
theorem dX9_spreads_28 : decode cX9_spreads 28 = .ok (.putfield 109, 3) := by decide +kernel
theorem dX9_spreads_31 : decode cX9_spreads 31 = .ok (.iconst 0, 1) := by decide +kernel
theorem dX9_spreads_32 : decode cX9_spreads 32 = .ok (.istore_n 3, 1) := by decide +kernel
theorem dX9_spreads_33 : decode cX9_spreads 33 = .ok (.iload_n 3, 1) := by decide +kernel
theorem dX9_spreads_34 : decode cX9_spreads 34 = .ok (.bipush 16, 2) := by decide +kernel
theorem dX9_spreads_36 : decode cX9_spreads 36 = .ok (.if_icmp .ge 36, 3) := by decide +kernel
theorem dX9_spreads_39 : decode cX9_spreads 39 = .ok (.aload_n 0, 1) := by decide +kernel
theorem dX9_spreads_40 : decode cX9_spreads 40 = .ok (.iload_n 3, 1) := by decide +kernel
theorem dX9_spreads_41 : decode cX9_spreads 41 = .ok (.invokevirtual 99, 3) := by decide +kernel
theorem dX9_spreads_44 : decode cX9_spreads 44 = .ok (.ifCond .eq 22, 3) := by decide +kernel
theorem dX9_spreads_47 : decode cX9_spreads 47 = .ok (.aload_n 0, 1) := by decide +kernel
theorem dX9_spreads_48 : decode cX9_spreads 48 = .ok (.sipush 263, 3) := by decide +kernel
theorem dX9_spreads_51 : decode cX9_spreads 51 = .ok (.iload_n 3, 1) := by decide +kernel
theorem dX9_spreads_52 : decode cX9_spreads 52 = .ok (.iadd, 1) := by decide +kernel
theorem dX9_spreads_53 : decode cX9_spreads 53 = .ok (.invokevirtual 85, 3) := by decide +kernel
theorem dX9_spreads_56 : decode cX9_spreads 56 = .ok (.iload_n 1, 1) := by decide +kernel
theorem dX9_spreads_57 : decode cX9_spreads 57 = .ok (.if_icmp .ne 9, 3) := by decide +kernel
theorem dX9_spreads_60 : decode cX9_spreads 60 = .ok (.aload_n 0, 1) := by decide +kernel
theorem dX9_spreads_61 : decode cX9_spreads 61 = .ok (.iload_n 3, 1) := by decide +kernel
theorem dX9_spreads_62 : decode cX9_spreads 62 = .ok (.iconst 1, 1) := by decide +kernel
theorem dX9_spreads_63 : decode cX9_spreads 63 = .ok (.invokevirtual 142, 3) := by decide +kernel
theorem dX9_spreads_66 : decode cX9_spreads 66 = .ok (.iinc 3 1, 3) := by decide +kernel
theorem dX9_spreads_69 : decode cX9_spreads 69 = .ok (.goto (-36), 3) := by decide +kernel
theorem dX9_spreads_72 : decode cX9_spreads 72 = .ok (.aload_n 0, 1) := by decide +kernel
theorem dX9_spreads_73 : decode cX9_spreads 73 = .ok (.getfield 109, 3) := by decide +kernel
theorem dX9_spreads_76 : decode cX9_spreads 76 = .ok (.iconst 2, 1) := by decide +kernel
theorem dX9_spreads_77 : decode cX9_spreads 77 = .ok (.if_icmp .ge 6, 3) := by decide +kernel
theorem dX9_spreads_80 : decode cX9_spreads 80 = .ok (.bipush (-2), 2) := by decide +kernel
theorem dX9_spreads_82 : decode cX9_spreads 82 = .ok (.ireturn, 1) := by decide +kernel
theorem dX9_spreads_83 : decode cX9_spreads 83 = .ok (.iconst 0, 1) := by decide +kernel
theorem dX9_spreads_84 : decode cX9_spreads 84 = .ok (.istore_n 3, 1) := by decide +kernel
theorem dX9_spreads_85 : decode cX9_spreads 85 = .ok (.aload_n 0, 1) := by decide +kernel
theorem dX9_spreads_86 : decode cX9_spreads 86 = .ok (.sipush 231, 3) := by decide +kernel
theorem dX9_spreads_89 : decode cX9_spreads 89 = .ok (.aload_n 0, 1) := by decide +kernel
theorem dX9_spreads_90 : decode cX9_spreads 90 = .ok (.getfield 52, 3) := by decide +kernel
theorem dX9_spreads_93 : decode cX9_spreads 93 = .ok (.iconst 0, 1) := by decide +kernel
theorem dX9_spreads_94 : decode cX9_spreads 94 = .ok (.iaload, 1) := by decide +kernel
theorem dX9_spreads_95 : decode cX9_spreads 95 = .ok (.iadd, 1) := by decide +kernel
theorem dX9_spreads_96 : decode cX9_spreads 96 = .ok (.invokevirtual 85, 3) := by decide +kernel
theorem dX9_spreads_99 : decode cX9_spreads 99 = .ok (.istore 4, 2) := by decide +kernel
theorem dX9_spreads_101 : decode cX9_spreads 101 = .ok (.iconst 0, 1) := by decide +kernel
theorem dX9_spreads_102 : decode cX9_spreads 102 = .ok (.istore 5, 2) := by decide +kernel
theorem dX9_spreads_104 : decode cX9_spreads 104 = .ok (.iload 5, 2) := by decide +kernel
theorem dX9_spreads_106 : decode cX9_spreads 106 = .ok (.aload_n 0, 1) := by decide +kernel
theorem dX9_spreads_107 : decode cX9_spreads 107 = .ok (.getfield 109, 3) := by decide +kernel
theorem dX9_spreads_110 : decode cX9_spreads 110 = .ok (.if_icmp .ge 77, 3) := by decide +kernel
theorem dX9_spreads_113 : decode cX9_spreads 113 = .ok (.iload 4, 2) := by decide +kernel
theorem dX9_spreads_115 : decode cX9_spreads 115 = .ok (.iload 5, 2) := by decide +kernel
theorem dX9_spreads_117 : decode cX9_spreads 117 = .ok (.iload_n 2, 1) := by decide +kernel
theorem dX9_spreads_118 : decode cX9_spreads 118 = .ok (.imul, 1) := by decide +kernel
theorem dX9_spreads_119 : decode cX9_spreads 119 = .ok (.iadd, 1) := by decide +kernel
theorem dX9_spreads_120 : decode cX9_spreads 120 = .ok (.istore 6, 2) := by decide +kernel
theorem dX9_spreads_122 : decode cX9_spreads 122 = .ok (.iload_n 3, 1) := by decide +kernel
theorem dX9_spreads_123 : decode cX9_spreads 123 = .ok (.aload_n 0, 1) := by decide +kernel
theorem dX9_spreads_124 : decode cX9_spreads 124 = .ok (.sipush 231, 3) := by decide +kernel
theorem dX9_spreads_127 : decode cX9_spreads 127 = .ok (.aload_n 0, 1) := by decide +kernel
theorem dX9_spreads_128 : decode cX9_spreads 128 = .ok (.getfield 52, 3) := by decide +kernel
theorem dX9_spreads_131 : decode cX9_spreads 131 = .ok (.iload 5, 2) := by decide +kernel
theorem dX9_spreads_133 : decode cX9_spreads 133 = .ok (.iaload, 1) := by decide +kernel
theorem dX9_spreads_134 : decode cX9_spreads 134 = .ok (.iadd, 1) := by decide +kernel
theorem dX9_spreads_135 : decode cX9_spreads 135 = .ok (.invokevirtual 85, 3) := by decide +kernel
theorem dX9_spreads_138 : decode cX9_spreads 138 = .ok (.iload 6, 2) := by decide +kernel
theorem dX9_spreads_140 : decode cX9_spreads 140 = .ok (.if_icmp .eq 7, 3) := by decide +kernel
theorem dX9_spreads_143 : decode cX9_spreads 143 = .ok (.iconst 1, 1) := by decide +kernel
theorem dX9_spreads_144 : decode cX9_spreads 144 = .ok (.goto 4, 3) := by decide +kernel
theorem dX9_spreads_147 : decode cX9_spreads 147 = .ok (.iconst 0, 1) := by decide +kernel
theorem dX9_spreads_148 : decode cX9_spreads 148 = .ok (.invokestatic 31, 3) := by decide +kernel
theorem dX9_spreads_151 : decode cX9_spreads 151 = .ok (.iadd, 1) := by decide +kernel
theorem dX9_spreads_152 : decode cX9_spreads 152 = .ok (.istore_n 3, 1) := by decide +kernel
theorem dX9_spreads_153 : decode cX9_spreads 153 = .ok (.aload_n 0, 1) := by decide +kernel
theorem dX9_spreads_154 : decode cX9_spreads 154 = .ok (.sipush 231, 3) := by decide +kernel
theorem dX9_spreads_157 : decode cX9_spreads 157 = .ok (.aload_n 0, 1) := by decide +kernel
theorem dX9_spreads_158 : decode cX9_spreads 158 = .ok (.getfield 52, 3) := by decide +kernel
theorem dX9_spreads_161 : decode cX9_spreads 161 = .ok (.iload 5, 2) := by decide +kernel
theorem dX9_spreads_163 : decode cX9_spreads 163 = .ok (.iaload, 1) := by decide +kernel
theorem dX9_spreads_164 : decode cX9_spreads 164 = .ok (.iadd, 1) := by decide +kernel
theorem dX9_spreads_165 : decode cX9_spreads 165 = .ok (.iload 6, 2) := by decide +kernel
theorem dX9_spreads_167 : decode cX9_spreads 167 = .ok (.invokevirtual 76, 3) := by decide +kernel
theorem dX9_spreads_170 : decode cX9_spreads 170 = .ok (.aload_n 0, 1) := by decide +kernel
theorem dX9_spreads_171 : decode cX9_spreads 171 = .ok (.aload_n 0, 1) := by decide +kernel
theorem dX9_spreads_172 : decode cX9_spreads 172 = .ok (.getfield 52, 3) := by decide +kernel
theorem dX9_spreads_175 : decode cX9_spreads 175 = .ok (.iload 5, 2) := by decide +kernel
theorem dX9_spreads_177 : decode cX9_spreads 177 = .ok (.iaload, 1) := by decide +kernel
theorem dX9_spreads_178 : decode cX9_spreads 178 = .ok (.invokevirtual 102, 3) := by decide +kernel
theorem dX9_spreads_181 : decode cX9_spreads 181 = .ok (.iinc 5 1, 3) := by decide +kernel
theorem dX9_spreads_184 : decode cX9_spreads 184 = .ok (.goto (-80), 3) := by decide +kernel
theorem dX9_spreads_187 : decode cX9_spreads 187 = .ok (.aload_n 0, 1) := by decide +kernel
theorem dX9_spreads_188 : decode cX9_spreads 188 = .ok (.iconst 0, 1) := by decide +kernel
theorem dX9_spreads_189 : decode cX9_spreads 189 = .ok (.putfield 11, 3) := by decide +kernel
theorem dX9_spreads_192 : decode cX9_spreads 192 = .ok (.aload_n 0, 1) := by decide +kernel
theorem dX9_spreads_193 : decode cX9_spreads 193 = .ok (.aload_n 0, 1) := by decide +kernel
theorem dX9_spreads_194 : decode cX9_spreads 194 = .ok (.sipush 231, 3) := by decide +kernel
theorem dX9_spreads_197 : decode cX9_spreads 197 = .ok (.aload_n 0, 1) := by decide +kernel
theorem dX9_spreads_198 : decode cX9_spreads 198 = .ok (.getfield 52, 3) := by decide +kernel
theorem dX9_spreads_201 : decode cX9_spreads 201 = .ok (.aload_n 0, 1) := by decide +kernel
theorem dX9_spreads_202 : decode cX9_spreads 202 = .ok (.getfield 109, 3) := by decide +kernel
theorem dX9_spreads_205 : decode cX9_spreads 205 = .ok (.iconst 1, 1) := by decide +kernel
end
section
theorem dX9_spreads_206 : decode cX9_spreads 206 = .ok (.isub, 1) := by decide +kernel
theorem dX9_spreads_207 : decode cX9_spreads 207 = .ok (.iaload, 1) := by decide +kernel
theorem dX9_spreads_208 : decode cX9_spreads 208 = .ok (.iadd, 1) := by decide +kernel
theorem dX9_spreads_209 : decode cX9_spreads 209 = .ok (.invokevirtual 85, 3) := by decide +kernel
theorem dX9_spreads_212 : decode cX9_spreads 212 = .ok (.i2l, 1) := by decide +kernel
theorem dX9_spreads_213 : decode cX9_spreads 213 = .ok (.invokevirtual 153, 3) := by decide +kernel
theorem dX9_spreads_216 : decode cX9_spreads 216 = .ok (.iload_n 3, 1) := by decide +kernel
theorem dX9_spreads_217 : decode cX9_spreads 217 = .ok (.ireturn, 1) := by decide +kernel
theorem dX9_readsAct_0 : decode cX9_readsAct 0 = .ok (.iconst 4, 1) := by decide +kernel
theorem dX9_readsAct_1 : decode cX9_readsAct 1 = .ok (.iload_n 1, 1) := by decide +kernel
theorem dX9_readsAct_2 : decode cX9_readsAct 2 = .ok (.imul, 1) := by decide +kernel
theorem dX9_readsAct_3 : decode cX9_readsAct 3 = .ok (.istore_n 2, 1) := by decide +kernel
theorem dX9_readsAct_4 : decode cX9_readsAct 4 = .ok (.aload_n 0, 1) := by decide +kernel
theorem dX9_readsAct_5 : decode cX9_readsAct 5 = .ok (.bipush 115, 2) := by decide +kernel
theorem dX9_readsAct_7 : decode cX9_readsAct 7 = .ok (.invokevirtual 228, 3) := by decide +kernel
theorem dX9_readsAct_10 : decode cX9_readsAct 10 = .ok (.ifCond .eq 146, 3) := by decide +kernel
theorem dX9_readsAct_13 : decode cX9_readsAct 13 = .ok (.aload_n 0, 1) := by decide +kernel
theorem dX9_readsAct_14 : decode cX9_readsAct 14 = .ok (.getfield 64, 3) := by decide +kernel
theorem dX9_readsAct_17 : decode cX9_readsAct 17 = .ok (.iload_n 2, 1) := by decide +kernel
theorem dX9_readsAct_18 : decode cX9_readsAct 18 = .ok (.iconst 0, 1) := by decide +kernel
theorem dX9_readsAct_19 : decode cX9_readsAct 19 = .ok (.iastore, 1) := by decide +kernel
theorem dX9_readsAct_20 : decode cX9_readsAct 20 = .ok (.aload_n 0, 1) := by decide +kernel
theorem dX9_readsAct_21 : decode cX9_readsAct 21 = .ok (.getfield 64, 3) := by decide +kernel
theorem dX9_readsAct_24 : decode cX9_readsAct 24 = .ok (.iload_n 2, 1) := by decide +kernel
theorem dX9_readsAct_25 : decode cX9_readsAct 25 = .ok (.iconst 1, 1) := by decide +kernel
theorem dX9_readsAct_26 : decode cX9_readsAct 26 = .ok (.iadd, 1) := by decide +kernel
theorem dX9_readsAct_27 : decode cX9_readsAct 27 = .ok (.aload_n 0, 1) := by decide +kernel
theorem dX9_readsAct_28 : decode cX9_readsAct 28 = .ok (.iconst 4, 1) := by decide +kernel
theorem dX9_readsAct_29 : decode cX9_readsAct 29 = .ok (.iconst 1, 1) := by decide +kernel
theorem dX9_readsAct_30 : decode cX9_readsAct 30 = .ok (.sipush 9999, 3) := by decide +kernel
theorem dX9_readsAct_33 : decode cX9_readsAct 33 = .ok (.invokevirtual 231, 3) := by decide +kernel
theorem dX9_readsAct_36 : decode cX9_readsAct 36 = .ok (.iastore, 1) := by decide +kernel
theorem dX9_readsAct_37 : decode cX9_readsAct 37 = .ok (.aload_n 0, 1) := by decide +kernel
theorem dX9_readsAct_38 : decode cX9_readsAct 38 = .ok (.getfield 64, 3) := by decide +kernel
theorem dX9_readsAct_41 : decode cX9_readsAct 41 = .ok (.iload_n 2, 1) := by decide +kernel
theorem dX9_readsAct_42 : decode cX9_readsAct 42 = .ok (.iconst 1, 1) := by decide +kernel
theorem dX9_readsAct_43 : decode cX9_readsAct 43 = .ok (.iadd, 1) := by decide +kernel
theorem dX9_readsAct_44 : decode cX9_readsAct 44 = .ok (.iaload, 1) := by decide +kernel
theorem dX9_readsAct_45 : decode cX9_readsAct 45 = .ok (.ifCond .lt 12, 3) := by decide +kernel
theorem dX9_readsAct_48 : decode cX9_readsAct 48 = .ok (.aload_n 0, 1) := by decide +kernel
theorem dX9_readsAct_49 : decode cX9_readsAct 49 = .ok (.bipush 44, 2) := by decide +kernel
theorem dX9_readsAct_51 : decode cX9_readsAct 51 = .ok (.invokevirtual 228, 3) := by decide +kernel
theorem dX9_readsAct_54 : decode cX9_readsAct 54 = .ok (.ifCond .ne 5, 3) := by decide +kernel
theorem dX9_readsAct_57 : decode cX9_readsAct 57 = .ok (.iconst 0, 1) := by decide +kernel
theorem dX9_readsAct_58 : decode cX9_readsAct 58 = .ok (.ireturn, 1) := by decide +kernel
theorem dX9_readsAct_59 : decode cX9_readsAct 59 = .ok (.aload_n 0, 1) := by decide +kernel
theorem dX9_readsAct_60 : decode cX9_readsAct 60 = .ok (.getfield 64, 3) := by decide +kernel
theorem dX9_readsAct_63 : decode cX9_readsAct 63 = .ok (.iload_n 2, 1) := by decide +kernel
theorem dX9_readsAct_64 : decode cX9_readsAct 64 = .ok (.iconst 2, 1) := by decide +kernel
theorem dX9_readsAct_65 : decode cX9_readsAct 65 = .ok (.iadd, 1) := by decide +kernel
theorem dX9_readsAct_66 : decode cX9_readsAct 66 = .ok (.aload_n 0, 1) := by decide +kernel
theorem dX9_readsAct_67 : decode cX9_readsAct 67 = .ok (.iconst 1, 1) := by decide +kernel
theorem dX9_readsAct_68 : decode cX9_readsAct 68 = .ok (.iconst 0, 1) := by decide +kernel
theorem dX9_readsAct_69 : decode cX9_readsAct 69 = .ok (.iconst 3, 1) := by decide +kernel
theorem dX9_readsAct_70 : decode cX9_readsAct 70 = .ok (.invokevirtual 231, 3) := by decide +kernel
theorem dX9_readsAct_73 : decode cX9_readsAct 73 = .ok (.iastore, 1) := by decide +kernel
theorem dX9_readsAct_74 : decode cX9_readsAct 74 = .ok (.aload_n 0, 1) := by decide +kernel
theorem dX9_readsAct_75 : decode cX9_readsAct 75 = .ok (.getfield 64, 3) := by decide +kernel
theorem dX9_readsAct_78 : decode cX9_readsAct 78 = .ok (.iload_n 2, 1) := by decide +kernel
theorem dX9_readsAct_79 : decode cX9_readsAct 79 = .ok (.iconst 3, 1) := by decide +kernel
theorem dX9_readsAct_80 : decode cX9_readsAct 80 = .ok (.iadd, 1) := by decide +kernel
theorem dX9_readsAct_81 : decode cX9_readsAct 81 = .ok (.iconst 1, 1) := by decide +kernel
theorem dX9_readsAct_82 : decode cX9_readsAct 82 = .ok (.iastore, 1) := by decide +kernel
theorem dX9_readsAct_83 : decode cX9_readsAct 83 = .ok (.aload_n 0, 1) := by decide +kernel
theorem dX9_readsAct_84 : decode cX9_readsAct 84 = .ok (.getfield 64, 3) := by decide +kernel
theorem dX9_readsAct_87 : decode cX9_readsAct 87 = .ok (.iload_n 2, 1) := by decide +kernel
theorem dX9_readsAct_88 : decode cX9_readsAct 88 = .ok (.iconst 2, 1) := by decide +kernel
theorem dX9_readsAct_89 : decode cX9_readsAct 89 = .ok (.iadd, 1) := by decide +kernel
theorem dX9_readsAct_90 : decode cX9_readsAct 90 = .ok (.iaload, 1) := by decide +kernel
theorem dX9_readsAct_91 : decode cX9_readsAct 91 = .ok (.ifCond .gt 20, 3) := by decide +kernel
theorem dX9_readsAct_94 : decode cX9_readsAct 94 = .ok (.aload_n 0, 1) := by decide +kernel
theorem dX9_readsAct_95 : decode cX9_readsAct 95 = .ok (.getfield 64, 3) := by decide +kernel
theorem dX9_readsAct_98 : decode cX9_readsAct 98 = .ok (.iload_n 2, 1) := by decide +kernel
theorem dX9_readsAct_99 : decode cX9_readsAct 99 = .ok (.iconst 2, 1) := by decide +kernel
theorem dX9_readsAct_100 : decode cX9_readsAct 100 = .ok (.iadd, 1) := by decide +kernel
theorem dX9_readsAct_101 : decode cX9_readsAct 101 = .ok (.iaload, 1) := by decide +kernel
theorem dX9_readsAct_102 : decode cX9_readsAct 102 = .ok (.ifCond .ne 7, 3) := by decide +kernel
theorem dX9_readsAct_105 : decode cX9_readsAct 105 = .ok (.iconst 1, 1) := by decide +kernel
theorem dX9_readsAct_106 : decode cX9_readsAct 106 = .ok (.goto 4, 3) := by decide +kernel
theorem dX9_readsAct_109 : decode cX9_readsAct 109 = .ok (.iconst 0, 1) := by decide +kernel
theorem dX9_readsAct_110 : decode cX9_readsAct 110 = .ok (.ireturn, 1) := by decide +kernel
theorem dX9_readsAct_111 : decode cX9_readsAct 111 = .ok (.aload_n 0, 1) := by decide +kernel
theorem dX9_readsAct_112 : decode cX9_readsAct 112 = .ok (.bipush 44, 2) := by decide +kernel
theorem dX9_readsAct_114 : decode cX9_readsAct 114 = .ok (.invokevirtual 228, 3) := by decide +kernel
theorem dX9_readsAct_117 : decode cX9_readsAct 117 = .ok (.ifCond .ne 5, 3) := by decide +kernel
theorem dX9_readsAct_120 : decode cX9_readsAct 120 = .ok (.iconst 0, 1) := by decide +kernel
theorem dX9_readsAct_121 : decode cX9_readsAct 121 = .ok (.ireturn, 1) := by decide +kernel
theorem dX9_readsAct_122 : decode cX9_readsAct 122 = .ok (.aload_n 0, 1) := by decide +kernel
theorem dX9_readsAct_123 : decode cX9_readsAct 123 = .ok (.getfield 64, 3) := by decide +kernel
theorem dX9_readsAct_126 : decode cX9_readsAct 126 = .ok (.iload_n 2, 1) := by decide +kernel
theorem dX9_readsAct_127 : decode cX9_readsAct 127 = .ok (.iconst 3, 1) := by decide +kernel
theorem dX9_readsAct_128 : decode cX9_readsAct 128 = .ok (.iadd, 1) := by decide +kernel
theorem dX9_readsAct_129 : decode cX9_readsAct 129 = .ok (.aload_n 0, 1) := by decide +kernel
theorem dX9_readsAct_130 : decode cX9_readsAct 130 = .ok (.iconst 4, 1) := by decide +kernel
theorem dX9_readsAct_131 : decode cX9_readsAct 131 = .ok (.iconst 1, 1) := by decide +kernel
theorem dX9_readsAct_132 : decode cX9_readsAct 132 = .ok (.sipush 1000, 3) := by decide +kernel
theorem dX9_readsAct_135 : decode cX9_readsAct 135 = .ok (.invokevirtual 231, 3) := by decide +kernel
theorem dX9_readsAct_138 : decode cX9_readsAct 138 = .ok (.iastore, 1) := by decide +kernel
theorem dX9_readsAct_139 : decode cX9_readsAct 139 = .ok (.aload_n 0, 1) := by decide +kernel
theorem dX9_readsAct_140 : decode cX9_readsAct 140 = .ok (.getfield 64, 3) := by decide +kernel
theorem dX9_readsAct_143 : decode cX9_readsAct 143 = .ok (.iload_n 2, 1) := by decide +kernel
theorem dX9_readsAct_144 : decode cX9_readsAct 144 = .ok (.iconst 3, 1) := by decide +kernel
theorem dX9_readsAct_145 : decode cX9_readsAct 145 = .ok (.iadd, 1) := by decide +kernel
theorem dX9_readsAct_146 : decode cX9_readsAct 146 = .ok (.iaload, 1) := by decide +kernel
theorem dX9_readsAct_147 : decode cX9_readsAct 147 = .ok (.ifCond .le 7, 3) := by decide +kernel
theorem dX9_readsAct_150 : decode cX9_readsAct 150 = .ok (.iconst 1, 1) := by decide +kernel
theorem dX9_readsAct_151 : decode cX9_readsAct 151 = .ok (.goto 4, 3) := by decide +kernel
theorem dX9_readsAct_154 : decode cX9_readsAct 154 = .ok (.iconst 0, 1) := by decide +kernel
theorem dX9_readsAct_155 : decode cX9_readsAct 155 = .ok (.ireturn, 1) := by decide +kernel
theorem dX9_readsAct_156 : decode cX9_readsAct 156 = .ok (.aload_n 0, 1) := by decide +kernel
theorem dX9_readsAct_157 : decode cX9_readsAct 157 = .ok (.bipush 116, 2) := by decide +kernel
theorem dX9_readsAct_159 : decode cX9_readsAct 159 = .ok (.invokevirtual 228, 3) := by decide +kernel
theorem dX9_readsAct_162 : decode cX9_readsAct 162 = .ok (.ifCond .eq 43, 3) := by decide +kernel
theorem dX9_readsAct_165 : decode cX9_readsAct 165 = .ok (.aload_n 0, 1) := by decide +kernel
theorem dX9_readsAct_166 : decode cX9_readsAct 166 = .ok (.getfield 64, 3) := by decide +kernel
theorem dX9_readsAct_169 : decode cX9_readsAct 169 = .ok (.iload_n 2, 1) := by decide +kernel
theorem dX9_readsAct_170 : decode cX9_readsAct 170 = .ok (.iconst 1, 1) := by decide +kernel
theorem dX9_readsAct_171 : decode cX9_readsAct 171 = .ok (.iastore, 1) := by decide +kernel
theorem dX9_readsAct_172 : decode cX9_readsAct 172 = .ok (.aload_n 0, 1) := by decide +kernel
theorem dX9_readsAct_173 : decode cX9_readsAct 173 = .ok (.getfield 64, 3) := by decide +kernel
theorem dX9_readsAct_176 : decode cX9_readsAct 176 = .ok (.iload_n 2, 1) := by decide +kernel
theorem dX9_readsAct_177 : decode cX9_readsAct 177 = .ok (.iconst 1, 1) := by decide +kernel
theorem dX9_readsAct_178 : decode cX9_readsAct 178 = .ok (.iadd, 1) := by decide +kernel
theorem dX9_readsAct_179 : decode cX9_readsAct 179 = .ok (.aload_n 0, 1) := by decide +kernel
theorem dX9_readsAct_180 : decode cX9_readsAct 180 = .ok (.iconst 1, 1) := by decide +kernel
theorem dX9_readsAct_181 : decode cX9_readsAct 181 = .ok (.iconst 1, 1) := by decide +kernel
theorem dX9_readsAct_182 : decode cX9_readsAct 182 = .ok (.bipush 9, 2) := by decide +kernel
theorem dX9_readsAct_184 : decode cX9_readsAct 184 = .ok (.invokevirtual 231, 3) := by decide +kernel
theorem dX9_readsAct_187 : decode cX9_readsAct 187 = .ok (.iastore, 1) := by decide +kernel
theorem dX9_readsAct_188 : decode cX9_readsAct 188 = .ok (.aload_n 0, 1) := by decide +kernel
theorem dX9_readsAct_189 : decode cX9_readsAct 189 = .ok (.getfield 64, 3) := by decide +kernel
theorem dX9_readsAct_192 : decode cX9_readsAct 192 = .ok (.iload_n 2, 1) := by decide +kernel
theorem dX9_readsAct_193 : decode cX9_readsAct 193 = .ok (.iconst 1, 1) := by decide +kernel
theorem dX9_readsAct_194 : decode cX9_readsAct 194 = .ok (.iadd, 1) := by decide +kernel
theorem dX9_readsAct_195 : decode cX9_readsAct 195 = .ok (.iaload, 1) := by decide +kernel
theorem dX9_readsAct_196 : decode cX9_readsAct 196 = .ok (.ifCond .le 7, 3) := by decide +kernel
theorem dX9_readsAct_199 : decode cX9_readsAct 199 = .ok (.iconst 1, 1) := by decide +kernel
theorem dX9_readsAct_200 : decode cX9_readsAct 200 = .ok (.goto 4, 3) := by decide +kernel
theorem dX9_readsAct_203 : decode cX9_readsAct 203 = .ok (.iconst 0, 1) := by decide +kernel
theorem dX9_readsAct_204 : decode cX9_readsAct 204 = .ok (.ireturn, 1) := by decide +kernel
theorem dX9_readsAct_205 : decode cX9_readsAct 205 = .ok (.aload_n 0, 1) := by decide +kernel
theorem dX9_readsAct_206 : decode cX9_readsAct 206 = .ok (.bipush 108, 2) := by decide +kernel
theorem dX9_readsAct_208 : decode cX9_readsAct 208 = .ok (.invokevirtual 228, 3) := by decide +kernel
theorem dX9_readsAct_211 : decode cX9_readsAct 211 = .ok (.ifCond .eq 59, 3) := by decide +kernel
theorem dX9_readsAct_214 : decode cX9_readsAct 214 = .ok (.aload_n 0, 1) := by decide +kernel
theorem dX9_readsAct_215 : decode cX9_readsAct 215 = .ok (.getfield 64, 3) := by decide +kernel
theorem dX9_readsAct_218 : decode cX9_readsAct 218 = .ok (.iload_n 2, 1) := by decide +kernel
theorem dX9_readsAct_219 : decode cX9_readsAct 219 = .ok (.iconst 2, 1) := by decide +kernel
theorem dX9_readsAct_220 : decode cX9_readsAct 220 = .ok (.iastore, 1) := by decide +kernel
theorem dX9_readsAct_221 : decode cX9_readsAct 221 = .ok (.aload_n 0, 1) := by decide +kernel
theorem dX9_readsAct_222 : decode cX9_readsAct 222 = .ok (.bipush 45, 2) := by decide +kernel
theorem dX9_readsAct_224 : decode cX9_readsAct 224 = .ok (.invokevirtual 228, 3) := by decide +kernel
theorem dX9_readsAct_227 : decode cX9_readsAct 227 = .ok (.istore_n 3, 1) := by decide +kernel
theorem dX9_readsAct_228 : decode cX9_readsAct 228 = .ok (.aload_n 0, 1) := by decide +kernel
theorem dX9_readsAct_229 : decode cX9_readsAct 229 = .ok (.iconst 4, 1) := by decide +kernel
theorem dX9_readsAct_230 : decode cX9_readsAct 230 = .ok (.iconst 1, 1) := by decide +kernel
theorem dX9_readsAct_231 : decode cX9_readsAct 231 = .ok (.sipush 9999, 3) := by decide +kernel
theorem dX9_readsAct_234 : decode cX9_readsAct 234 = .ok (.invokevirtual 231, 3) := by decide +kernel
theorem dX9_readsAct_237 : decode cX9_readsAct 237 = .ok (.istore 4, 2) := by decide +kernel
theorem dX9_readsAct_239 : decode cX9_readsAct 239 = .ok (.aload_n 0, 1) := by decide +kernel
theorem dX9_readsAct_240 : decode cX9_readsAct 240 = .ok (.getfield 64, 3) := by decide +kernel
theorem dX9_readsAct_243 : decode cX9_readsAct 243 = .ok (.iload_n 2, 1) := by decide +kernel
theorem dX9_readsAct_244 : decode cX9_readsAct 244 = .ok (.iconst 1, 1) := by decide +kernel
theorem dX9_readsAct_245 : decode cX9_readsAct 245 = .ok (.iadd, 1) := by decide +kernel
theorem dX9_readsAct_246 : decode cX9_readsAct 246 = .ok (.iload_n 3, 1) := by decide +kernel
theorem dX9_readsAct_247 : decode cX9_readsAct 247 = .ok (.ifCond .eq 9, 3) := by decide +kernel
theorem dX9_readsAct_250 : decode cX9_readsAct 250 = .ok (.iload 4, 2) := by decide +kernel
theorem dX9_readsAct_252 : decode cX9_readsAct 252 = .ok (.ineg, 1) := by decide +kernel
theorem dX9_readsAct_253 : decode cX9_readsAct 253 = .ok (.goto 5, 3) := by decide +kernel
theorem dX9_readsAct_256 : decode cX9_readsAct 256 = .ok (.iload 4, 2) := by decide +kernel
theorem dX9_readsAct_258 : decode cX9_readsAct 258 = .ok (.iastore, 1) := by decide +kernel
theorem dX9_readsAct_259 : decode cX9_readsAct 259 = .ok (.iload 4, 2) := by decide +kernel
theorem dX9_readsAct_261 : decode cX9_readsAct 261 = .ok (.ifCond .le 7, 3) := by decide +kernel
theorem dX9_readsAct_264 : decode cX9_readsAct 264 = .ok (.iconst 1, 1) := by decide +kernel
theorem dX9_readsAct_265 : decode cX9_readsAct 265 = .ok (.goto 4, 3) := by decide +kernel
theorem dX9_readsAct_268 : decode cX9_readsAct 268 = .ok (.iconst 0, 1) := by decide +kernel
theorem dX9_readsAct_269 : decode cX9_readsAct 269 = .ok (.ireturn, 1) := by decide +kernel
theorem dX9_readsAct_270 : decode cX9_readsAct 270 = .ok (.aload_n 0, 1) := by decide +kernel
theorem dX9_readsAct_271 : decode cX9_readsAct 271 = .ok (.bipush 99, 2) := by decide +kernel
theorem dX9_readsAct_273 : decode cX9_readsAct 273 = .ok (.invokevirtual 228, 3) := by decide +kernel
theorem dX9_readsAct_276 : decode cX9_readsAct 276 = .ok (.ifCond .eq 43, 3) := by decide +kernel
theorem dX9_readsAct_279 : decode cX9_readsAct 279 = .ok (.aload_n 0, 1) := by decide +kernel
theorem dX9_readsAct_280 : decode cX9_readsAct 280 = .ok (.getfield 64, 3) := by decide +kernel
theorem dX9_readsAct_283 : decode cX9_readsAct 283 = .ok (.iload_n 2, 1) := by decide +kernel
theorem dX9_readsAct_284 : decode cX9_readsAct 284 = .ok (.iconst 3, 1) := by decide +kernel
theorem dX9_readsAct_285 : decode cX9_readsAct 285 = .ok (.iastore, 1) := by decide +kernel
theorem dX9_readsAct_286 : decode cX9_readsAct 286 = .ok (.aload_n 0, 1) := by decide +kernel
theorem dX9_readsAct_287 : decode cX9_readsAct 287 = .ok (.getfield 64, 3) := by decide +kernel
theorem dX9_readsAct_290 : decode cX9_readsAct 290 = .ok (.iload_n 2, 1) := by decide +kernel
theorem dX9_readsAct_291 : decode cX9_readsAct 291 = .ok (.iconst 1, 1) := by decide +kernel
theorem dX9_readsAct_292 : decode cX9_readsAct 292 = .ok (.iadd, 1) := by decide +kernel
theorem dX9_readsAct_293 : decode cX9_readsAct 293 = .ok (.aload_n 0, 1) := by decide +kernel
theorem dX9_readsAct_294 : decode cX9_readsAct 294 = .ok (.iconst 2, 1) := by decide +kernel
theorem dX9_readsAct_295 : decode cX9_readsAct 295 = .ok (.iconst 0, 1) := by decide +kernel
theorem dX9_readsAct_296 : decode cX9_readsAct 296 = .ok (.bipush 99, 2) := by decide +kernel
theorem dX9_readsAct_298 : decode cX9_readsAct 298 = .ok (.invokevirtual 231, 3) := by decide +kernel
theorem dX9_readsAct_301 : decode cX9_readsAct 301 = .ok (.iastore, 1) := by decide +kernel
theorem dX9_readsAct_302 : decode cX9_readsAct 302 = .ok (.aload_n 0, 1) := by decide +kernel
theorem dX9_readsAct_303 : decode cX9_readsAct 303 = .ok (.getfield 64, 3) := by decide +kernel
theorem dX9_readsAct_306 : decode cX9_readsAct 306 = .ok (.iload_n 2, 1) := by decide +kernel
theorem dX9_readsAct_307 : decode cX9_readsAct 307 = .ok (.iconst 1, 1) := by decide +kernel
theorem dX9_readsAct_308 : decode cX9_readsAct 308 = .ok (.iadd, 1) := by decide +kernel
theorem dX9_readsAct_309 : decode cX9_readsAct 309 = .ok (.iaload, 1) := by decide +kernel
theorem dX9_readsAct_310 : decode cX9_readsAct 310 = .ok (.ifCond .lt 7, 3) := by decide +kernel
theorem dX9_readsAct_313 : decode cX9_readsAct 313 = .ok (.iconst 1, 1) := by decide +kernel
theorem dX9_readsAct_314 : decode cX9_readsAct 314 = .ok (.goto 4, 3) := by decide +kernel
theorem dX9_readsAct_317 : decode cX9_readsAct 317 = .ok (.iconst 0, 1) := by decide +kernel
theorem dX9_readsAct_318 : decode cX9_readsAct 318 = .ok (.ireturn, 1) := by decide +kernel
theorem dX9_readsAct_319 : decode cX9_readsAct 319 = .ok (.iconst 0, 1) := by decide +kernel
theorem dX9_readsAct_320 : decode cX9_readsAct 320 = .ok (.ireturn, 1) := by decide +kernel
theorem dX9_doesAct_0 : decode cX9_doesAct 0 = .ok (.iconst 4, 1) := by decide +kernel
theorem dX9_doesAct_1 : decode cX9_doesAct 1 = .ok (.iload_n 1, 1) := by decide +kernel
theorem dX9_doesAct_2 : decode cX9_doesAct 2 = .ok (.imul, 1) := by decide +kernel
theorem dX9_doesAct_3 : decode cX9_doesAct 3 = .ok (.istore_n 2, 1) := by decide +kernel
theorem dX9_doesAct_4 : decode cX9_doesAct 4 = .ok (.aload_n 0, 1) := by decide +kernel
theorem dX9_doesAct_5 : decode cX9_doesAct 5 = .ok (.iconst 0, 1) := by decide +kernel
theorem dX9_doesAct_6 : decode cX9_doesAct 6 = .ok (.putfield 129, 3) := by decide +kernel
theorem dX9_doesAct_9 : decode cX9_doesAct 9 = .ok (.aload_n 0, 1) := by decide +kernel
theorem dX9_doesAct_10 : decode cX9_doesAct 10 = .ok (.getfield 64, 3) := by decide +kernel
theorem dX9_doesAct_13 : decode cX9_doesAct 13 = .ok (.iload_n 2, 1) := by decide +kernel
theorem dX9_doesAct_14 : decode cX9_doesAct 14 = .ok (.iaload, 1) := by decide +kernel
theorem dX9_doesAct_15 : decode cX9_doesAct 15 = .ok (.tableswitch 82 0 2 #[25, 56, 69], 25) := by decide +kernel
theorem dX9_doesAct_40 : decode cX9_doesAct 40 = .ok (.aload_n 0, 1) := by decide +kernel
theorem dX9_doesAct_41 : decode cX9_doesAct 41 = .ok (.aload_n 0, 1) := by decide +kernel
theorem dX9_doesAct_42 : decode cX9_doesAct 42 = .ok (.getfield 64, 3) := by decide +kernel
theorem dX9_doesAct_45 : decode cX9_doesAct 45 = .ok (.iload_n 2, 1) := by decide +kernel
theorem dX9_doesAct_46 : decode cX9_doesAct 46 = .ok (.iconst 1, 1) := by decide +kernel
theorem dX9_doesAct_47 : decode cX9_doesAct 47 = .ok (.iadd, 1) := by decide +kernel
theorem dX9_doesAct_48 : decode cX9_doesAct 48 = .ok (.iaload, 1) := by decide +kernel
theorem dX9_doesAct_49 : decode cX9_doesAct 49 = .ok (.iconst 0, 1) := by decide +kernel
theorem dX9_doesAct_50 : decode cX9_doesAct 50 = .ok (.aload_n 0, 1) := by decide +kernel
theorem dX9_doesAct_51 : decode cX9_doesAct 51 = .ok (.getfield 64, 3) := by decide +kernel
theorem dX9_doesAct_54 : decode cX9_doesAct 54 = .ok (.iload_n 2, 1) := by decide +kernel
theorem dX9_doesAct_55 : decode cX9_doesAct 55 = .ok (.iconst 2, 1) := by decide +kernel
theorem dX9_doesAct_56 : decode cX9_doesAct 56 = .ok (.iadd, 1) := by decide +kernel
theorem dX9_doesAct_57 : decode cX9_doesAct 57 = .ok (.iaload, 1) := by decide +kernel
theorem dX9_doesAct_58 : decode cX9_doesAct 58 = .ok (.aload_n 0, 1) := by decide +kernel
theorem dX9_doesAct_59 : decode cX9_doesAct 59 = .ok (.getfield 64, 3) := by decide +kernel
theorem dX9_doesAct_62 : decode cX9_doesAct 62 = .ok (.iload_n 2, 1) := by decide +kernel
theorem dX9_doesAct_63 : decode cX9_doesAct 63 = .ok (.iconst 3, 1) := by decide +kernel
theorem dX9_doesAct_64 : decode cX9_doesAct 64 = .ok (.iadd, 1) := by decide +kernel
theorem dX9_doesAct_65 : decode cX9_doesAct 65 = .ok (.iaload, 1) := by decide +kernel
theorem dX9_doesAct_66 : decode cX9_doesAct 66 = .ok (.iconst 0, 1) := by decide +kernel
theorem dX9_doesAct_67 : decode cX9_doesAct 67 = .ok (.invokevirtual 209, 3) := by decide +kernel
theorem dX9_doesAct_70 : decode cX9_doesAct 70 = .ok (.ireturn, 1) := by decide +kernel
theorem dX9_doesAct_71 : decode cX9_doesAct 71 = .ok (.aload_n 0, 1) := by decide +kernel
theorem dX9_doesAct_72 : decode cX9_doesAct 72 = .ok (.aload_n 0, 1) := by decide +kernel
theorem dX9_doesAct_73 : decode cX9_doesAct 73 = .ok (.getfield 64, 3) := by decide +kernel
theorem dX9_doesAct_76 : decode cX9_doesAct 76 = .ok (.iload_n 2, 1) := by decide +kernel
theorem dX9_doesAct_77 : decode cX9_doesAct 77 = .ok (.iconst 1, 1) := by decide +kernel
theorem dX9_doesAct_78 : decode cX9_doesAct 78 = .ok (.iadd, 1) := by decide +kernel
theorem dX9_doesAct_79 : decode cX9_doesAct 79 = .ok (.iaload, 1) := by decide +kernel
theorem dX9_doesAct_80 : decode cX9_doesAct 80 = .ok (.invokevirtual 185, 3) := by decide +kernel
theorem dX9_doesAct_83 : decode cX9_doesAct 83 = .ok (.ireturn, 1) := by decide +kernel
theorem dX9_doesAct_84 : decode cX9_doesAct 84 = .ok (.aload_n 0, 1) := by decide +kernel
theorem dX9_doesAct_85 : decode cX9_doesAct 85 = .ok (.aload_n 0, 1) := by decide +kernel
theorem dX9_doesAct_86 : decode cX9_doesAct 86 = .ok (.getfield 64, 3) := by decide +kernel
theorem dX9_doesAct_89 : decode cX9_doesAct 89 = .ok (.iload_n 2, 1) := by decide +kernel
theorem dX9_doesAct_90 : decode cX9_doesAct 90 = .ok (.iconst 1, 1) := by decide +kernel
theorem dX9_doesAct_91 : decode cX9_doesAct 91 = .ok (.iadd, 1) := by decide +kernel
theorem dX9_doesAct_92 : decode cX9_doesAct 92 = .ok (.iaload, 1) := by decide +kernel
theorem dX9_doesAct_93 : decode cX9_doesAct 93 = .ok (.invokevirtual 198, 3) := by decide +kernel
theorem dX9_doesAct_96 : decode cX9_doesAct 96 = .ok (.ireturn, 1) := by decide +kernel
theorem dX9_doesAct_97 : decode cX9_doesAct 97 = .ok (.aload_n 0, 1) := by decide +kernel
theorem dX9_doesAct_98 : decode cX9_doesAct 98 = .ok (.aload_n 0, 1) := by decide +kernel
theorem dX9_doesAct_99 : decode cX9_doesAct 99 = .ok (.getfield 64, 3) := by decide +kernel
theorem dX9_doesAct_102 : decode cX9_doesAct 102 = .ok (.iload_n 2, 1) := by decide +kernel
theorem dX9_doesAct_103 : decode cX9_doesAct 103 = .ok (.iconst 1, 1) := by decide +kernel
theorem dX9_doesAct_104 : decode cX9_doesAct 104 = .ok (.iadd, 1) := by decide +kernel
theorem dX9_doesAct_105 : decode cX9_doesAct 105 = .ok (.iaload, 1) := by decide +kernel
theorem dX9_doesAct_106 : decode cX9_doesAct 106 = .ok (.invokevirtual 216, 3) := by decide +kernel
theorem dX9_doesAct_109 : decode cX9_doesAct 109 = .ok (.ireturn, 1) := by decide +kernel
theorem dX9_run_0 : decode cX9_run 0 = .ok (.aload_n 0, 1) := by decide +kernel
theorem dX9_run_1 : decode cX9_run 1 = .ok (.iconst 0, 1) := by decide +kernel
theorem dX9_run_2 : decode cX9_run 2 = .ok (.putfield 1, 3) := by decide +kernel
theorem dX9_run_5 : decode cX9_run 5 = .ok (.aload_n 0, 1) := by decide +kernel
theorem dX9_run_6 : decode cX9_run 6 = .ok (.aload_n 0, 1) := by decide +kernel
theorem dX9_run_7 : decode cX9_run 7 = .ok (.getfield 14, 3) := by decide +kernel
theorem dX9_run_10 : decode cX9_run 10 = .ok (.putfield 28, 3) := by decide +kernel
theorem dX9_run_13 : decode cX9_run 13 = .ok (.aload_n 0, 1) := by decide +kernel
theorem dX9_run_14 : decode cX9_run 14 = .ok (.iconst 0, 1) := by decide +kernel
theorem dX9_run_15 : decode cX9_run 15 = .ok (.putfield 14, 3) := by decide +kernel
theorem dX9_run_18 : decode cX9_run 18 = .ok (.aload_n 0, 1) := by decide +kernel
theorem dX9_run_19 : decode cX9_run 19 = .ok (.iconst 0, 1) := by decide +kernel
theorem dX9_run_20 : decode cX9_run 20 = .ok (.putfield 25, 3) := by decide +kernel
theorem dX9_run_23 : decode cX9_run 23 = .ok (.iconst 0, 1) := by decide +kernel
theorem dX9_run_24 : decode cX9_run 24 = .ok (.istore_n 1, 1) := by decide +kernel
theorem dX9_run_25 : decode cX9_run 25 = .ok (.aload_n 0, 1) := by decide +kernel
theorem dX9_run_26 : decode cX9_run 26 = .ok (.getfield 25, 3) := by decide +kernel
theorem dX9_run_29 : decode cX9_run 29 = .ok (.aload_n 0, 1) := by decide +kernel
theorem dX9_run_30 : decode cX9_run 30 = .ok (.getfield 28, 3) := by decide +kernel
theorem dX9_run_33 : decode cX9_run 33 = .ok (.if_icmp .ge 37, 3) := by decide +kernel
theorem dX9_run_36 : decode cX9_run 36 = .ok (.iload_n 1, 1) := by decide +kernel
theorem dX9_run_37 : decode cX9_run 37 = .ok (.ifCond .le 12, 3) := by decide +kernel
theorem dX9_run_40 : decode cX9_run 40 = .ok (.aload_n 0, 1) := by decide +kernel
theorem dX9_run_41 : decode cX9_run 41 = .ok (.bipush 59, 2) := by decide +kernel
theorem dX9_run_43 : decode cX9_run 43 = .ok (.invokevirtual 228, 3) := by decide +kernel
theorem dX9_run_46 : decode cX9_run 46 = .ok (.ifCond .eq 11, 3) := by decide +kernel
theorem dX9_run_49 : decode cX9_run 49 = .ok (.aload_n 0, 1) := by decide +kernel
theorem dX9_run_50 : decode cX9_run 50 = .ok (.iload_n 1, 1) := by decide +kernel
theorem dX9_run_51 : decode cX9_run 51 = .ok (.invokevirtual 235, 3) := by decide +kernel
theorem dX9_run_54 : decode cX9_run 54 = .ok (.ifCond .ne 10, 3) := by decide +kernel
theorem dX9_run_57 : decode cX9_run 57 = .ok (.iconst (-1), 1) := by decide +kernel
theorem dX9_run_58 : decode cX9_run 58 = .ok (.aload_n 0, 1) := by decide +kernel
theorem dX9_run_59 : decode cX9_run 59 = .ok (.getfield 25, 3) := by decide +kernel
theorem dX9_run_62 : decode cX9_run 62 = .ok (.isub, 1) := by decide +kernel
theorem dX9_run_63 : decode cX9_run 63 = .ok (.ireturn, 1) := by decide +kernel
theorem dX9_run_64 : decode cX9_run 64 = .ok (.iinc 1 1, 3) := by decide +kernel
theorem dX9_run_67 : decode cX9_run 67 = .ok (.goto (-42), 3) := by decide +kernel
theorem dX9_run_70 : decode cX9_run 70 = .ok (.iconst 0, 1) := by decide +kernel
theorem dX9_run_71 : decode cX9_run 71 = .ok (.istore_n 2, 1) := by decide +kernel
theorem dX9_run_72 : decode cX9_run 72 = .ok (.iconst 0, 1) := by decide +kernel
theorem dX9_run_73 : decode cX9_run 73 = .ok (.istore_n 3, 1) := by decide +kernel
theorem dX9_run_74 : decode cX9_run 74 = .ok (.iconst 1, 1) := by decide +kernel
theorem dX9_run_75 : decode cX9_run 75 = .ok (.istore 4, 2) := by decide +kernel
theorem dX9_run_77 : decode cX9_run 77 = .ok (.iload_n 2, 1) := by decide +kernel
theorem dX9_run_78 : decode cX9_run 78 = .ok (.iload_n 1, 1) := by decide +kernel
theorem dX9_run_79 : decode cX9_run 79 = .ok (.if_icmp .ge 50, 3) := by decide +kernel
theorem dX9_run_82 : decode cX9_run 82 = .ok (.iload 4, 2) := by decide +kernel
theorem dX9_run_84 : decode cX9_run 84 = .ok (.ifCond .eq 45, 3) := by decide +kernel
theorem dX9_run_87 : decode cX9_run 87 = .ok (.aload_n 0, 1) := by decide +kernel
theorem dX9_run_88 : decode cX9_run 88 = .ok (.iload_n 2, 1) := by decide +kernel
theorem dX9_run_89 : decode cX9_run 89 = .ok (.invokevirtual 238, 3) := by decide +kernel
theorem dX9_run_92 : decode cX9_run 92 = .ok (.ifCond .lt 7, 3) := by decide +kernel
theorem dX9_run_95 : decode cX9_run 95 = .ok (.iconst 1, 1) := by decide +kernel
theorem dX9_run_96 : decode cX9_run 96 = .ok (.goto 4, 3) := by decide +kernel
theorem dX9_run_99 : decode cX9_run 99 = .ok (.iconst 0, 1) := by decide +kernel
theorem dX9_run_100 : decode cX9_run 100 = .ok (.istore 4, 2) := by decide +kernel
theorem dX9_run_102 : decode cX9_run 102 = .ok (.iload_n 3, 1) := by decide +kernel
theorem dX9_run_103 : decode cX9_run 103 = .ok (.iload 4, 2) := by decide +kernel
theorem dX9_run_105 : decode cX9_run 105 = .ok (.ifCond .eq 10, 3) := by decide +kernel
theorem dX9_run_108 : decode cX9_run 108 = .ok (.aload_n 0, 1) := by decide +kernel
theorem dX9_run_109 : decode cX9_run 109 = .ok (.getfield 129, 3) := by decide +kernel
theorem dX9_run_112 : decode cX9_run 112 = .ok (.goto 4, 3) := by decide +kernel
theorem dX9_run_115 : decode cX9_run 115 = .ok (.iconst 0, 1) := by decide +kernel
theorem dX9_run_116 : decode cX9_run 116 = .ok (.iadd, 1) := by decide +kernel
theorem dX9_run_117 : decode cX9_run 117 = .ok (.istore_n 3, 1) := by decide +kernel
theorem dX9_run_118 : decode cX9_run 118 = .ok (.iload_n 2, 1) := by decide +kernel
theorem dX9_run_119 : decode cX9_run 119 = .ok (.iload 4, 2) := by decide +kernel
theorem dX9_run_121 : decode cX9_run 121 = .ok (.invokestatic 31, 3) := by decide +kernel
theorem dX9_run_124 : decode cX9_run 124 = .ok (.iadd, 1) := by decide +kernel
theorem dX9_run_125 : decode cX9_run 125 = .ok (.istore_n 2, 1) := by decide +kernel
theorem dX9_run_126 : decode cX9_run 126 = .ok (.goto (-49), 3) := by decide +kernel
theorem dX9_run_129 : decode cX9_run 129 = .ok (.aload_n 0, 1) := by decide +kernel
theorem dX9_run_130 : decode cX9_run 130 = .ok (.iconst 0, 1) := by decide +kernel
theorem dX9_run_131 : decode cX9_run 131 = .ok (.putfield 11, 3) := by decide +kernel
theorem dX9_run_134 : decode cX9_run 134 = .ok (.aload_n 0, 1) := by decide +kernel
theorem dX9_run_135 : decode cX9_run 135 = .ok (.iload_n 2, 1) := by decide +kernel
theorem dX9_run_136 : decode cX9_run 136 = .ok (.iload_n 1, 1) := by decide +kernel
theorem dX9_run_137 : decode cX9_run 137 = .ok (.if_icmp .ge 7, 3) := by decide +kernel
theorem dX9_run_140 : decode cX9_run 140 = .ok (.iconst 1, 1) := by decide +kernel
theorem dX9_run_141 : decode cX9_run 141 = .ok (.goto 4, 3) := by decide +kernel
theorem dX9_run_144 : decode cX9_run 144 = .ok (.iconst 0, 1) := by decide +kernel
theorem dX9_run_145 : decode cX9_run 145 = .ok (.invokestatic 31, 3) := by decide +kernel
theorem dX9_run_148 : decode cX9_run 148 = .ok (.i2l, 1) := by decide +kernel
theorem dX9_run_149 : decode cX9_run 149 = .ok (.invokevirtual 153, 3) := by decide +kernel
theorem dX9_run_152 : decode cX9_run 152 = .ok (.aload_n 0, 1) := by decide +kernel
theorem dX9_run_153 : decode cX9_run 153 = .ok (.iload_n 3, 1) := by decide +kernel
theorem dX9_run_154 : decode cX9_run 154 = .ok (.i2l, 1) := by decide +kernel
theorem dX9_run_155 : decode cX9_run 155 = .ok (.invokevirtual 153, 3) := by decide +kernel
theorem dX9_run_158 : decode cX9_run 158 = .ok (.iload_n 2, 1) := by decide +kernel
theorem dX9_run_159 : decode cX9_run 159 = .ok (.ireturn, 1) := by decide +kernel
theorem dX9_timer_0 : decode cX9_timer 0 = .ok (.aload_n 0, 1) := by decide +kernel
theorem dX9_timer_1 : decode cX9_timer 1 = .ok (.aload_n 0, 1) := by decide +kernel
theorem dX9_timer_2 : decode cX9_timer 2 = .ok (.iload_n 1, 1) := by decide +kernel
theorem dX9_timer_3 : decode cX9_timer 3 = .ok (.invokevirtual 89, 3) := by decide +kernel
theorem dX9_timer_6 : decode cX9_timer 6 = .ok (.ifCond .eq 15, 3) := by decide +kernel
theorem dX9_timer_9 : decode cX9_timer 9 = .ok (.iload_n 2, 1) := by decide +kernel
theorem dX9_timer_10 : decode cX9_timer 10 = .ok (.i2l, 1) := by decide +kernel
theorem dX9_timer_11 : decode cX9_timer 11 = .ok (.lconst 0, 1) := by decide +kernel
theorem dX9_timer_12 : decode cX9_timer 12 = .ok (.ldc2_w 241, 3) := by decide +kernel
theorem dX9_timer_15 : decode cX9_timer 15 = .ok (.invokestatic 21, 3) := by decide +kernel
theorem dX9_timer_18 : decode cX9_timer 18 = .ok (.ifCond .ne 7, 3) := by decide +kernel
theorem dX9_timer_21 : decode cX9_timer 21 = .ok (.iconst 1, 1) := by decide +kernel
theorem dX9_timer_22 : decode cX9_timer 22 = .ok (.goto 4, 3) := by decide +kernel
theorem dX9_timer_25 : decode cX9_timer 25 = .ok (.iconst 0, 1) := by decide +kernel
theorem dX9_timer_26 : decode cX9_timer 26 = .ok (.invokestatic 31, 3) := by decide +kernel
theorem dX9_timer_29 : decode cX9_timer 29 = .ok (.putfield 1, 3) := by decide +kernel
theorem dX9_timer_32 : decode cX9_timer 32 = .ok (.aload_n 0, 1) := by decide +kernel
theorem dX9_timer_33 : decode cX9_timer 33 = .ok (.getfield 1, 3) := by decide +kernel
theorem dX9_timer_36 : decode cX9_timer 36 = .ok (.iconst 1, 1) := by decide +kernel
theorem dX9_timer_37 : decode cX9_timer 37 = .ok (.if_icmp .ne 5, 3) := by decide +kernel
theorem dX9_timer_40 : decode cX9_timer 40 = .ok (.iconst 0, 1) := by decide +kernel
theorem dX9_timer_41 : decode cX9_timer 41 = .ok (.ireturn, 1) := by decide +kernel
theorem dX9_timer_42 : decode cX9_timer 42 = .ok (.aload_n 0, 1) := by decide +kernel
theorem dX9_timer_43 : decode cX9_timer 43 = .ok (.sipush 343, 3) := by decide +kernel
theorem dX9_timer_46 : decode cX9_timer 46 = .ok (.iload_n 1, 1) := by decide +kernel
theorem dX9_timer_47 : decode cX9_timer 47 = .ok (.iadd, 1) := by decide +kernel
theorem dX9_timer_48 : decode cX9_timer 48 = .ok (.invokevirtual 85, 3) := by decide +kernel
theorem dX9_timer_51 : decode cX9_timer 51 = .ok (.iconst 1, 1) := by decide +kernel
theorem dX9_timer_52 : decode cX9_timer 52 = .ok (.if_icmp .ne 7, 3) := by decide +kernel
theorem dX9_timer_55 : decode cX9_timer 55 = .ok (.iconst 1, 1) := by decide +kernel
theorem dX9_timer_56 : decode cX9_timer 56 = .ok (.goto 4, 3) := by decide +kernel
theorem dX9_timer_59 : decode cX9_timer 59 = .ok (.iconst 0, 1) := by decide +kernel
theorem dX9_timer_60 : decode cX9_timer 60 = .ok (.istore_n 3, 1) := by decide +kernel
theorem dX9_timer_61 : decode cX9_timer 61 = .ok (.iload_n 2, 1) := by decide +kernel
theorem dX9_timer_62 : decode cX9_timer 62 = .ok (.tableswitch 195 0 9 #[54, 87, 106, 125, 135, 145, 155, 165, 175, 185], 54) := by decide +kernel
theorem dX9_timer_116 : decode cX9_timer 116 = .ok (.iload_n 3, 1) := by decide +kernel
theorem dX9_timer_117 : decode cX9_timer 117 = .ok (.ifCond .eq 22, 3) := by decide +kernel
theorem dX9_timer_120 : decode cX9_timer 120 = .ok (.aload_n 0, 1) := by decide +kernel
theorem dX9_timer_121 : decode cX9_timer 121 = .ok (.bipush 6, 2) := by decide +kernel
theorem dX9_timer_123 : decode cX9_timer 123 = .ok (.invokevirtual 85, 3) := by decide +kernel
theorem dX9_timer_126 : decode cX9_timer 126 = .ok (.aload_n 0, 1) := by decide +kernel
theorem dX9_timer_127 : decode cX9_timer 127 = .ok (.sipush 359, 3) := by decide +kernel
theorem dX9_timer_130 : decode cX9_timer 130 = .ok (.iload_n 1, 1) := by decide +kernel
theorem dX9_timer_131 : decode cX9_timer 131 = .ok (.iadd, 1) := by decide +kernel
theorem dX9_timer_132 : decode cX9_timer 132 = .ok (.invokevirtual 85, 3) := by decide +kernel
theorem dX9_timer_135 : decode cX9_timer 135 = .ok (.iadd, 1) := by decide +kernel
theorem dX9_timer_136 : decode cX9_timer 136 = .ok (.goto 12, 3) := by decide +kernel
theorem dX9_timer_139 : decode cX9_timer 139 = .ok (.aload_n 0, 1) := by decide +kernel
theorem dX9_timer_140 : decode cX9_timer 140 = .ok (.sipush 231, 3) := by decide +kernel
theorem dX9_timer_143 : decode cX9_timer 143 = .ok (.iload_n 1, 1) := by decide +kernel
theorem dX9_timer_144 : decode cX9_timer 144 = .ok (.iadd, 1) := by decide +kernel
theorem dX9_timer_145 : decode cX9_timer 145 = .ok (.invokevirtual 85, 3) := by decide +kernel
theorem dX9_timer_148 : decode cX9_timer 148 = .ok (.ireturn, 1) := by decide +kernel
theorem dX9_timer_149 : decode cX9_timer 149 = .ok (.iload_n 3, 1) := by decide +kernel
theorem dX9_timer_150 : decode cX9_timer 150 = .ok (.ifCond .eq 8, 3) := by decide +kernel
theorem dX9_timer_153 : decode cX9_timer 153 = .ok (.bipush (-2), 2) := by decide +kernel
theorem dX9_timer_155 : decode cX9_timer 155 = .ok (.goto 12, 3) := by decide +kernel
theorem dX9_timer_158 : decode cX9_timer 158 = .ok (.aload_n 0, 1) := by decide +kernel
theorem dX9_timer_159 : decode cX9_timer 159 = .ok (.sipush 391, 3) := by decide +kernel
theorem dX9_timer_162 : decode cX9_timer 162 = .ok (.iload_n 1, 1) := by decide +kernel
theorem dX9_timer_163 : decode cX9_timer 163 = .ok (.iadd, 1) := by decide +kernel
theorem dX9_timer_164 : decode cX9_timer 164 = .ok (.invokevirtual 85, 3) := by decide +kernel
theorem dX9_timer_167 : decode cX9_timer 167 = .ok (.ireturn, 1) := by decide +kernel
theorem dX9_timer_168 : decode cX9_timer 168 = .ok (.iload_n 3, 1) := by decide +kernel
theorem dX9_timer_169 : decode cX9_timer 169 = .ok (.ifCond .eq 8, 3) := by decide +kernel
theorem dX9_timer_172 : decode cX9_timer 172 = .ok (.bipush (-2), 2) := by decide +kernel
theorem dX9_timer_174 : decode cX9_timer 174 = .ok (.goto 12, 3) := by decide +kernel
theorem dX9_timer_177 : decode cX9_timer 177 = .ok (.aload_n 0, 1) := by decide +kernel
theorem dX9_timer_178 : decode cX9_timer 178 = .ok (.sipush 407, 3) := by decide +kernel
theorem dX9_timer_181 : decode cX9_timer 181 = .ok (.iload_n 1, 1) := by decide +kernel
theorem dX9_timer_182 : decode cX9_timer 182 = .ok (.iadd, 1) := by decide +kernel
theorem dX9_timer_183 : decode cX9_timer 183 = .ok (.invokevirtual 85, 3) := by decide +kernel
theorem dX9_timer_186 : decode cX9_timer 186 = .ok (.ireturn, 1) := by decide +kernel
theorem dX9_timer_187 : decode cX9_timer 187 = .ok (.aload_n 0, 1) := by decide +kernel
theorem dX9_timer_188 : decode cX9_timer 188 = .ok (.sipush 247, 3) := by decide +kernel
theorem dX9_timer_191 : decode cX9_timer 191 = .ok (.iload_n 1, 1) := by decide +kernel
theorem dX9_timer_192 : decode cX9_timer 192 = .ok (.iadd, 1) := by decide +kernel
theorem dX9_timer_193 : decode cX9_timer 193 = .ok (.invokevirtual 85, 3) := by decide +kernel
theorem dX9_timer_196 : decode cX9_timer 196 = .ok (.ireturn, 1) := by decide +kernel
theorem dX9_timer_197 : decode cX9_timer 197 = .ok (.aload_n 0, 1) := by decide +kernel
theorem dX9_timer_198 : decode cX9_timer 198 = .ok (.sipush 263, 3) := by decide +kernel
theorem dX9_timer_201 : decode cX9_timer 201 = .ok (.iload_n 1, 1) := by decide +kernel
theorem dX9_timer_202 : decode cX9_timer 202 = .ok (.iadd, 1) := by decide +kernel
theorem dX9_timer_203 : decode cX9_timer 203 = .ok (.invokevirtual 85, 3) := by decide +kernel
theorem dX9_timer_206 : decode cX9_timer 206 = .ok (.ireturn, 1) := by decide +kernel
theorem dX9_timer_207 : decode cX9_timer 207 = .ok (.aload_n 0, 1) := by decide +kernel
theorem dX9_timer_208 : decode cX9_timer 208 = .ok (.sipush 279, 3) := by decide +kernel
theorem dX9_timer_211 : decode cX9_timer 211 = .ok (.iload_n 1, 1) := by decide +kernel
theorem dX9_timer_212 : decode cX9_timer 212 = .ok (.iadd, 1) := by decide +kernel
theorem dX9_timer_213 : decode cX9_timer 213 = .ok (.invokevirtual 85, 3) := by decide +kernel
theorem dX9_timer_216 : decode cX9_timer 216 = .ok (.ireturn, 1) := by decide +kernel
theorem dX9_timer_217 : decode cX9_timer 217 = .ok (.aload_n 0, 1) := by decide +kernel
theorem dX9_timer_218 : decode cX9_timer 218 = .ok (.sipush 295, 3) := by decide +kernel
theorem dX9_timer_221 : decode cX9_timer 221 = .ok (.iload_n 1, 1) := by decide +kernel
theorem dX9_timer_222 : decode cX9_timer 222 = .ok (.iadd, 1) := by decide +kernel
theorem dX9_timer_223 : decode cX9_timer 223 = .ok (.invokevirtual 85, 3) := by decide +kernel
theorem dX9_timer_226 : decode cX9_timer 226 = .ok (.ireturn, 1) := by decide +kernel
theorem dX9_timer_227 : decode cX9_timer 227 = .ok (.aload_n 0, 1) := by decide +kernel
theorem dX9_timer_228 : decode cX9_timer 228 = .ok (.sipush 311, 3) := by decide +kernel
theorem dX9_timer_231 : decode cX9_timer 231 = .ok (.iload_n 1, 1) := by decide +kernel
theorem dX9_timer_232 : decode cX9_timer 232 = .ok (.iadd, 1) := by decide +kernel
theorem dX9_timer_233 : decode cX9_timer 233 = .ok (.invokevirtual 85, 3) := by decide +kernel
theorem dX9_timer_236 : decode cX9_timer 236 = .ok (.ireturn, 1) := by decide +kernel
theorem dX9_timer_237 : decode cX9_timer 237 = .ok (.aload_n 0, 1) := by decide +kernel
theorem dX9_timer_238 : decode cX9_timer 238 = .ok (.sipush 375, 3) := by decide +kernel
theorem dX9_timer_241 : decode cX9_timer 241 = .ok (.iload_n 1, 1) := by decide +kernel
theorem dX9_timer_242 : decode cX9_timer 242 = .ok (.iadd, 1) := by decide +kernel
theorem dX9_timer_243 : decode cX9_timer 243 = .ok (.invokevirtual 85, 3) := by decide +kernel
theorem dX9_timer_246 : decode cX9_timer 246 = .ok (.ireturn, 1) := by decide +kernel
theorem dX9_timer_247 : decode cX9_timer 247 = .ok (.aload_n 0, 1) := by decide +kernel
theorem dX9_timer_248 : decode cX9_timer 248 = .ok (.sipush 327, 3) := by decide +kernel
theorem dX9_timer_251 : decode cX9_timer 251 = .ok (.iload_n 1, 1) := by decide +kernel
theorem dX9_timer_252 : decode cX9_timer 252 = .ok (.iadd, 1) := by decide +kernel
theorem dX9_timer_253 : decode cX9_timer 253 = .ok (.invokevirtual 85, 3) := by decide +kernel
theorem dX9_timer_256 : decode cX9_timer 256 = .ok (.ireturn, 1) := by decide +kernel
theorem dX9_timer_257 : decode cX9_timer 257 = .ok (.iload_n 3, 1) := by decide +kernel
theorem dX9_timer_258 : decode cX9_timer 258 = .ok (.ifCond .eq 15, 3) := by decide +kernel
theorem dX9_timer_261 : decode cX9_timer 261 = .ok (.aload_n 0, 1) := by decide +kernel
theorem dX9_timer_262 : decode cX9_timer 262 = .ok (.sipush 359, 3) := by decide +kernel
theorem dX9_timer_265 : decode cX9_timer 265 = .ok (.iload_n 1, 1) := by decide +kernel
theorem dX9_timer_266 : decode cX9_timer 266 = .ok (.iadd, 1) := by decide +kernel
theorem dX9_timer_267 : decode cX9_timer 267 = .ok (.invokevirtual 85, 3) := by decide +kernel
theorem dX9_timer_270 : decode cX9_timer 270 = .ok (.goto 4, 3) := by decide +kernel
theorem dX9_timer_273 : decode cX9_timer 273 = .ok (.iconst (-1), 1) := by decide +kernel
theorem dX9_timer_274 : decode cX9_timer 274 = .ok (.ireturn, 1) := by decide +kernel
theorem dX9_tellsLine_0 : decode cX9_tellsLine 0 = .ok (.aload_n 0, 1) := by decide +kernel
theorem dX9_tellsLine_1 : decode cX9_tellsLine 1 = .ok (.iconst 0, 1) := by decide +kernel
theorem dX9_tellsLine_2 : decode cX9_tellsLine 2 = .ok (.putfield 11, 3) := by decide +kernel
theorem dX9_tellsLine_5 : decode cX9_tellsLine 5 = .ok (.iconst 0, 1) := by decide +kernel
theorem dX9_tellsLine_6 : decode cX9_tellsLine 6 = .ok (.istore_n 1, 1) := by decide +kernel
theorem dX9_tellsLine_7 : decode cX9_tellsLine 7 = .ok (.iload_n 1, 1) := by decide +kernel
theorem dX9_tellsLine_8 : decode cX9_tellsLine 8 = .ok (.aload_n 0, 1) := by decide +kernel
theorem dX9_tellsLine_9 : decode cX9_tellsLine 9 = .ok (.getfield 109, 3) := by decide +kernel
theorem dX9_tellsLine_12 : decode cX9_tellsLine 12 = .ok (.if_icmp .ge 20, 3) := by decide +kernel
theorem dX9_tellsLine_15 : decode cX9_tellsLine 15 = .ok (.aload_n 0, 1) := by decide +kernel
theorem dX9_tellsLine_16 : decode cX9_tellsLine 16 = .ok (.aload_n 0, 1) := by decide +kernel
theorem dX9_tellsLine_17 : decode cX9_tellsLine 17 = .ok (.getfield 52, 3) := by decide +kernel
theorem dX9_tellsLine_20 : decode cX9_tellsLine 20 = .ok (.iload_n 1, 1) := by decide +kernel
theorem dX9_tellsLine_21 : decode cX9_tellsLine 21 = .ok (.iaload, 1) := by decide +kernel
theorem dX9_tellsLine_22 : decode cX9_tellsLine 22 = .ok (.i2l, 1) := by decide +kernel
theorem dX9_tellsLine_23 : decode cX9_tellsLine 23 = .ok (.invokevirtual 153, 3) := by decide +kernel
theorem dX9_tellsLine_26 : decode cX9_tellsLine 26 = .ok (.iinc 1 1, 3) := by decide +kernel
theorem dX9_tellsLine_29 : decode cX9_tellsLine 29 = .ok (.goto (-22), 3) := by decide +kernel
theorem dX9_tellsLine_32 : decode cX9_tellsLine 32 = .ok (.return_, 1) := by decide +kernel
theorem dX9_slot_0 : decode cX9_slot 0 = .ok (.aload_n 0, 1) := by decide +kernel
theorem dX9_slot_1 : decode cX9_slot 1 = .ok (.iconst 0, 1) := by decide +kernel
theorem dX9_slot_2 : decode cX9_slot 2 = .ok (.putfield 1, 3) := by decide +kernel
theorem dX9_slot_5 : decode cX9_slot 5 = .ok (.iload_n 1, 1) := by decide +kernel
theorem dX9_slot_6 : decode cX9_slot 6 = .ok (.i2l, 1) := by decide +kernel
theorem dX9_slot_7 : decode cX9_slot 7 = .ok (.lconst 0, 1) := by decide +kernel
theorem dX9_slot_8 : decode cX9_slot 8 = .ok (.aload_n 0, 1) := by decide +kernel
theorem dX9_slot_9 : decode cX9_slot 9 = .ok (.iconst 0, 1) := by decide +kernel
theorem dX9_slot_10 : decode cX9_slot 10 = .ok (.invokevirtual 85, 3) := by decide +kernel
theorem dX9_slot_13 : decode cX9_slot 13 = .ok (.iconst 1, 1) := by decide +kernel
theorem dX9_slot_14 : decode cX9_slot 14 = .ok (.isub, 1) := by decide +kernel
theorem dX9_slot_15 : decode cX9_slot 15 = .ok (.i2l, 1) := by decide +kernel
theorem dX9_slot_16 : decode cX9_slot 16 = .ok (.invokestatic 21, 3) := by decide +kernel
theorem dX9_slot_19 : decode cX9_slot 19 = .ok (.ifCond .eq 22, 3) := by decide +kernel
theorem dX9_slot_22 : decode cX9_slot 22 = .ok (.iload_n 2, 1) := by decide +kernel
theorem dX9_slot_23 : decode cX9_slot 23 = .ok (.i2l, 1) := by decide +kernel
theorem dX9_slot_24 : decode cX9_slot 24 = .ok (.lconst 0, 1) := by decide +kernel
theorem dX9_slot_25 : decode cX9_slot 25 = .ok (.aload_n 0, 1) := by decide +kernel
theorem dX9_slot_26 : decode cX9_slot 26 = .ok (.iconst 1, 1) := by decide +kernel
theorem dX9_slot_27 : decode cX9_slot 27 = .ok (.iload_n 1, 1) := by decide +kernel
theorem dX9_slot_28 : decode cX9_slot 28 = .ok (.iadd, 1) := by decide +kernel
theorem dX9_slot_29 : decode cX9_slot 29 = .ok (.invokevirtual 85, 3) := by decide +kernel
theorem dX9_slot_32 : decode cX9_slot 32 = .ok (.iconst 1, 1) := by decide +kernel
theorem dX9_slot_33 : decode cX9_slot 33 = .ok (.isub, 1) := by decide +kernel
theorem dX9_slot_34 : decode cX9_slot 34 = .ok (.i2l, 1) := by decide +kernel
theorem dX9_slot_35 : decode cX9_slot 35 = .ok (.invokestatic 21, 3) := by decide +kernel
theorem dX9_slot_38 : decode cX9_slot 38 = .ok (.ifCond .ne 5, 3) := by decide +kernel
theorem dX9_slot_41 : decode cX9_slot 41 = .ok (.iconst (-1), 1) := by decide +kernel
theorem dX9_slot_42 : decode cX9_slot 42 = .ok (.ireturn, 1) := by decide +kernel
theorem dX9_slot_43 : decode cX9_slot 43 = .ok (.aload_n 0, 1) := by decide +kernel
theorem dX9_slot_44 : decode cX9_slot 44 = .ok (.iconst 0, 1) := by decide +kernel
theorem dX9_slot_45 : decode cX9_slot 45 = .ok (.putfield 109, 3) := by decide +kernel
theorem dX9_slot_48 : decode cX9_slot 48 = .ok (.iconst 0, 1) := by decide +kernel
theorem dX9_slot_49 : decode cX9_slot 49 = .ok (.istore_n 3, 1) := by decide +kernel
theorem dX9_slot_50 : decode cX9_slot 50 = .ok (.iload_n 3, 1) := by decide +kernel
theorem dX9_slot_51 : decode cX9_slot 51 = .ok (.bipush 16, 2) := by decide +kernel
theorem dX9_slot_53 : decode cX9_slot 53 = .ok (.if_icmp .ge 49, 3) := by decide +kernel
theorem dX9_slot_56 : decode cX9_slot 56 = .ok (.aload_n 0, 1) := by decide +kernel
theorem dX9_slot_57 : decode cX9_slot 57 = .ok (.iload_n 3, 1) := by decide +kernel
theorem dX9_slot_58 : decode cX9_slot 58 = .ok (.invokevirtual 99, 3) := by decide +kernel
theorem dX9_slot_61 : decode cX9_slot 61 = .ok (.ifCond .eq 35, 3) := by decide +kernel
theorem dX9_slot_64 : decode cX9_slot 64 = .ok (.aload_n 0, 1) := by decide +kernel
theorem dX9_slot_65 : decode cX9_slot 65 = .ok (.sipush 391, 3) := by decide +kernel
theorem dX9_slot_68 : decode cX9_slot 68 = .ok (.iload_n 3, 1) := by decide +kernel
theorem dX9_slot_69 : decode cX9_slot 69 = .ok (.iadd, 1) := by decide +kernel
theorem dX9_slot_70 : decode cX9_slot 70 = .ok (.invokevirtual 85, 3) := by decide +kernel
theorem dX9_slot_73 : decode cX9_slot 73 = .ok (.iload_n 1, 1) := by decide +kernel
theorem dX9_slot_74 : decode cX9_slot 74 = .ok (.if_icmp .ne 22, 3) := by decide +kernel
theorem dX9_slot_77 : decode cX9_slot 77 = .ok (.aload_n 0, 1) := by decide +kernel
theorem dX9_slot_78 : decode cX9_slot 78 = .ok (.sipush 407, 3) := by decide +kernel
theorem dX9_slot_81 : decode cX9_slot 81 = .ok (.iload_n 3, 1) := by decide +kernel
theorem dX9_slot_82 : decode cX9_slot 82 = .ok (.iadd, 1) := by decide +kernel
theorem dX9_slot_83 : decode cX9_slot 83 = .ok (.invokevirtual 85, 3) := by decide +kernel
theorem dX9_slot_86 : decode cX9_slot 86 = .ok (.iload_n 2, 1) := by decide +kernel
theorem dX9_slot_87 : decode cX9_slot 87 = .ok (.if_icmp .ne 9, 3) := by decide +kernel
theorem dX9_slot_90 : decode cX9_slot 90 = .ok (.aload_n 0, 1) := by decide +kernel
theorem dX9_slot_91 : decode cX9_slot 91 = .ok (.iload_n 3, 1) := by decide +kernel
theorem dX9_slot_92 : decode cX9_slot 92 = .ok (.iconst 0, 1) := by decide +kernel
theorem dX9_slot_93 : decode cX9_slot 93 = .ok (.invokevirtual 142, 3) := by decide +kernel
theorem dX9_slot_96 : decode cX9_slot 96 = .ok (.iinc 3 1, 3) := by decide +kernel
theorem dX9_slot_99 : decode cX9_slot 99 = .ok (.goto (-49), 3) := by decide +kernel
theorem dX9_slot_102 : decode cX9_slot 102 = .ok (.aload_n 0, 1) := by decide +kernel
theorem dX9_slot_103 : decode cX9_slot 103 = .ok (.invokevirtual 243, 3) := by decide +kernel
theorem dX9_slot_106 : decode cX9_slot 106 = .ok (.aload_n 0, 1) := by decide +kernel
theorem dX9_slot_107 : decode cX9_slot 107 = .ok (.getfield 109, 3) := by decide +kernel
theorem dX9_slot_110 : decode cX9_slot 110 = .ok (.ireturn, 1) := by decide +kernel
theorem dX9_far_0 : decode cX9_far 0 = .ok (.aload_n 0, 1) := by decide +kernel
theorem dX9_far_1 : decode cX9_far 1 = .ok (.iconst 0, 1) := by decide +kernel
theorem dX9_far_2 : decode cX9_far 2 = .ok (.putfield 1, 3) := by decide +kernel
theorem dX9_far_5 : decode cX9_far 5 = .ok (.aload_n 0, 1) := by decide +kernel
theorem dX9_far_6 : decode cX9_far 6 = .ok (.invokevirtual 246, 3) := by decide +kernel
theorem dX9_far_9 : decode cX9_far 9 = .ok (.aload_n 0, 1) := by decide +kernel
theorem dX9_far_10 : decode cX9_far 10 = .ok (.iconst 5, 1) := by decide +kernel
theorem dX9_far_11 : decode cX9_far 11 = .ok (.iconst 0, 1) := by decide +kernel
theorem dX9_far_12 : decode cX9_far 12 = .ok (.invokevirtual 76, 3) := by decide +kernel
theorem dX9_far_15 : decode cX9_far 15 = .ok (.aload_n 0, 1) := by decide +kernel
theorem dX9_far_16 : decode cX9_far 16 = .ok (.iconst 0, 1) := by decide +kernel
theorem dX9_far_17 : decode cX9_far 17 = .ok (.putfield 109, 3) := by decide +kernel
theorem dX9_far_20 : decode cX9_far 20 = .ok (.iconst 0, 1) := by decide +kernel
theorem dX9_far_21 : decode cX9_far 21 = .ok (.istore_n 1, 1) := by decide +kernel
theorem dX9_far_22 : decode cX9_far 22 = .ok (.iload_n 1, 1) := by decide +kernel
theorem dX9_far_23 : decode cX9_far 23 = .ok (.bipush 16, 2) := by decide +kernel
theorem dX9_far_25 : decode cX9_far 25 = .ok (.if_icmp .ge 36, 3) := by decide +kernel
theorem dX9_far_28 : decode cX9_far 28 = .ok (.aload_n 0, 1) := by decide +kernel
theorem dX9_far_29 : decode cX9_far 29 = .ok (.iload_n 1, 1) := by decide +kernel
theorem dX9_far_30 : decode cX9_far 30 = .ok (.invokevirtual 99, 3) := by decide +kernel
theorem dX9_far_33 : decode cX9_far 33 = .ok (.ifCond .eq 22, 3) := by decide +kernel
theorem dX9_far_36 : decode cX9_far 36 = .ok (.aload_n 0, 1) := by decide +kernel
theorem dX9_far_37 : decode cX9_far 37 = .ok (.sipush 391, 3) := by decide +kernel
theorem dX9_far_40 : decode cX9_far 40 = .ok (.iload_n 1, 1) := by decide +kernel
theorem dX9_far_41 : decode cX9_far 41 = .ok (.iadd, 1) := by decide +kernel
theorem dX9_far_42 : decode cX9_far 42 = .ok (.invokevirtual 85, 3) := by decide +kernel
theorem dX9_far_45 : decode cX9_far 45 = .ok (.iconst (-1), 1) := by decide +kernel
theorem dX9_far_46 : decode cX9_far 46 = .ok (.if_icmp .ne 9, 3) := by decide +kernel
theorem dX9_far_49 : decode cX9_far 49 = .ok (.aload_n 0, 1) := by decide +kernel
theorem dX9_far_50 : decode cX9_far 50 = .ok (.iload_n 1, 1) := by decide +kernel
theorem dX9_far_51 : decode cX9_far 51 = .ok (.iconst 1, 1) := by decide +kernel
theorem dX9_far_52 : decode cX9_far 52 = .ok (.invokevirtual 142, 3) := by decide +kernel
theorem dX9_far_55 : decode cX9_far 55 = .ok (.iinc 1 1, 3) := by decide +kernel
theorem dX9_far_58 : decode cX9_far 58 = .ok (.goto (-36), 3) := by decide +kernel
theorem dX9_far_61 : decode cX9_far 61 = .ok (.aload_n 0, 1) := by decide +kernel
theorem dX9_far_62 : decode cX9_far 62 = .ok (.invokevirtual 249, 3) := by decide +kernel
theorem dX9_far_65 : decode cX9_far 65 = .ok (.aload_n 0, 1) := by decide +kernel
theorem dX9_far_66 : decode cX9_far 66 = .ok (.invokevirtual 243, 3) := by decide +kernel
theorem dX9_far_69 : decode cX9_far 69 = .ok (.aload_n 0, 1) := by decide +kernel
theorem dX9_far_70 : decode cX9_far 70 = .ok (.getfield 109, 3) := by decide +kernel
theorem dX9_far_73 : decode cX9_far 73 = .ok (.ireturn, 1) := by decide +kernel
theorem dX9_group_0 : decode cX9_group 0 = .ok (.aload_n 0, 1) := by decide +kernel
theorem dX9_group_1 : decode cX9_group 1 = .ok (.iconst 0, 1) := by decide +kernel
theorem dX9_group_2 : decode cX9_group 2 = .ok (.putfield 1, 3) := by decide +kernel
theorem dX9_group_5 : decode cX9_group 5 = .ok (.iload_n 1, 1) := by decide +kernel
theorem dX9_group_6 : decode cX9_group 6 = .ok (.i2l, 1) := by decide +kernel
theorem dX9_group_7 : decode cX9_group 7 = .ok (.lconst 0, 1) := by decide +kernel
theorem dX9_group_8 : decode cX9_group 8 = .ok (.ldc2_w 201, 3) := by decide +kernel
theorem dX9_group_11 : decode cX9_group 11 = .ok (.invokestatic 21, 3) := by decide +kernel
theorem dX9_group_14 : decode cX9_group 14 = .ok (.ifCond .ne 5, 3) := by decide +kernel
theorem dX9_group_17 : decode cX9_group 17 = .ok (.iconst (-1), 1) := by decide +kernel
theorem dX9_group_18 : decode cX9_group 18 = .ok (.ireturn, 1) := by decide +kernel
theorem dX9_group_19 : decode cX9_group 19 = .ok (.aload_n 0, 1) := by decide +kernel
theorem dX9_group_20 : decode cX9_group 20 = .ok (.iconst 0, 1) := by decide +kernel
theorem dX9_group_21 : decode cX9_group 21 = .ok (.putfield 11, 3) := by decide +kernel
theorem dX9_group_24 : decode cX9_group 24 = .ok (.iconst 0, 1) := by decide +kernel
theorem dX9_group_25 : decode cX9_group 25 = .ok (.istore_n 2, 1) := by decide +kernel
theorem dX9_group_26 : decode cX9_group 26 = .ok (.iload_n 2, 1) := by decide +kernel
theorem dX9_group_27 : decode cX9_group 27 = .ok (.bipush 16, 2) := by decide +kernel
theorem dX9_group_29 : decode cX9_group 29 = .ok (.if_icmp .ge 36, 3) := by decide +kernel
theorem dX9_group_32 : decode cX9_group 32 = .ok (.aload_n 0, 1) := by decide +kernel
theorem dX9_group_33 : decode cX9_group 33 = .ok (.iload_n 2, 1) := by decide +kernel
theorem dX9_group_34 : decode cX9_group 34 = .ok (.invokevirtual 89, 3) := by decide +kernel
theorem dX9_group_37 : decode cX9_group 37 = .ok (.ifCond .eq 22, 3) := by decide +kernel
theorem dX9_group_40 : decode cX9_group 40 = .ok (.aload_n 0, 1) := by decide +kernel
theorem dX9_group_41 : decode cX9_group 41 = .ok (.sipush 263, 3) := by decide +kernel
theorem dX9_group_44 : decode cX9_group 44 = .ok (.iload_n 2, 1) := by decide +kernel
theorem dX9_group_45 : decode cX9_group 45 = .ok (.iadd, 1) := by decide +kernel
theorem dX9_group_46 : decode cX9_group 46 = .ok (.invokevirtual 85, 3) := by decide +kernel
theorem dX9_group_49 : decode cX9_group 49 = .ok (.iload_n 1, 1) := by decide +kernel
theorem dX9_group_50 : decode cX9_group 50 = .ok (.if_icmp .ne 9, 3) := by decide +kernel
theorem dX9_group_53 : decode cX9_group 53 = .ok (.aload_n 0, 1) := by decide +kernel
theorem dX9_group_54 : decode cX9_group 54 = .ok (.iload_n 2, 1) := by decide +kernel
theorem dX9_group_55 : decode cX9_group 55 = .ok (.i2l, 1) := by decide +kernel
theorem dX9_group_56 : decode cX9_group 56 = .ok (.invokevirtual 153, 3) := by decide +kernel
theorem dX9_group_59 : decode cX9_group 59 = .ok (.iinc 2 1, 3) := by decide +kernel
theorem dX9_group_62 : decode cX9_group 62 = .ok (.goto (-36), 3) := by decide +kernel
theorem dX9_group_65 : decode cX9_group 65 = .ok (.aload_n 0, 1) := by decide +kernel
theorem dX9_group_66 : decode cX9_group 66 = .ok (.getfield 11, 3) := by decide +kernel
theorem dX9_group_69 : decode cX9_group 69 = .ok (.ireturn, 1) := by decide +kernel
theorem dX9_full_0 : decode cX9_full 0 = .ok (.aload_n 0, 1) := by decide +kernel
theorem dX9_full_1 : decode cX9_full 1 = .ok (.iconst 0, 1) := by decide +kernel
theorem dX9_full_2 : decode cX9_full 2 = .ok (.putfield 1, 3) := by decide +kernel
theorem dX9_full_5 : decode cX9_full 5 = .ok (.iload_n 1, 1) := by decide +kernel
theorem dX9_full_6 : decode cX9_full 6 = .ok (.i2l, 1) := by decide +kernel
theorem dX9_full_7 : decode cX9_full 7 = .ok (.lconst 0, 1) := by decide +kernel
theorem dX9_full_8 : decode cX9_full 8 = .ok (.aload_n 0, 1) := by decide +kernel
theorem dX9_full_9 : decode cX9_full 9 = .ok (.iconst 0, 1) := by decide +kernel
theorem dX9_full_10 : decode cX9_full 10 = .ok (.invokevirtual 85, 3) := by decide +kernel
theorem dX9_full_13 : decode cX9_full 13 = .ok (.iconst 1, 1) := by decide +kernel
theorem dX9_full_14 : decode cX9_full 14 = .ok (.isub, 1) := by decide +kernel
theorem dX9_full_15 : decode cX9_full 15 = .ok (.i2l, 1) := by decide +kernel
theorem dX9_full_16 : decode cX9_full 16 = .ok (.invokestatic 21, 3) := by decide +kernel
theorem dX9_full_19 : decode cX9_full 19 = .ok (.ifCond .ne 5, 3) := by decide +kernel
theorem dX9_full_22 : decode cX9_full 22 = .ok (.iconst (-1), 1) := by decide +kernel
theorem dX9_full_23 : decode cX9_full 23 = .ok (.ireturn, 1) := by decide +kernel
theorem dX9_full_24 : decode cX9_full 24 = .ok (.iconst 0, 1) := by decide +kernel
theorem dX9_full_25 : decode cX9_full 25 = .ok (.istore_n 2, 1) := by decide +kernel
theorem dX9_full_26 : decode cX9_full 26 = .ok (.iconst 0, 1) := by decide +kernel
theorem dX9_full_27 : decode cX9_full 27 = .ok (.istore_n 3, 1) := by decide +kernel
theorem dX9_full_28 : decode cX9_full 28 = .ok (.iconst 0, 1) := by decide +kernel
theorem dX9_full_29 : decode cX9_full 29 = .ok (.istore 4, 2) := by decide +kernel
theorem dX9_full_31 : decode cX9_full 31 = .ok (.iload 4, 2) := by decide +kernel
theorem dX9_full_33 : decode cX9_full 33 = .ok (.bipush 16, 2) := by decide +kernel
theorem dX9_full_35 : decode cX9_full 35 = .ok (.if_icmp .ge 71, 3) := by decide +kernel
theorem dX9_full_38 : decode cX9_full 38 = .ok (.aload_n 0, 1) := by decide +kernel
theorem dX9_full_39 : decode cX9_full 39 = .ok (.iload 4, 2) := by decide +kernel
theorem dX9_full_41 : decode cX9_full 41 = .ok (.invokevirtual 99, 3) := by decide +kernel
theorem dX9_full_44 : decode cX9_full 44 = .ok (.ifCond .eq 21, 3) := by decide +kernel
theorem dX9_full_47 : decode cX9_full 47 = .ok (.aload_n 0, 1) := by decide +kernel
theorem dX9_full_48 : decode cX9_full 48 = .ok (.sipush 391, 3) := by decide +kernel
theorem dX9_full_51 : decode cX9_full 51 = .ok (.iload 4, 2) := by decide +kernel
theorem dX9_full_53 : decode cX9_full 53 = .ok (.iadd, 1) := by decide +kernel
theorem dX9_full_54 : decode cX9_full 54 = .ok (.invokevirtual 85, 3) := by decide +kernel
theorem dX9_full_57 : decode cX9_full 57 = .ok (.iload_n 1, 1) := by decide +kernel
theorem dX9_full_58 : decode cX9_full 58 = .ok (.if_icmp .ne 7, 3) := by decide +kernel
theorem dX9_full_61 : decode cX9_full 61 = .ok (.iconst 1, 1) := by decide +kernel
theorem dX9_full_62 : decode cX9_full 62 = .ok (.goto 4, 3) := by decide +kernel
theorem dX9_full_65 : decode cX9_full 65 = .ok (.iconst 0, 1) := by decide +kernel
theorem dX9_full_66 : decode cX9_full 66 = .ok (.istore 5, 2) := by decide +kernel
theorem dX9_full_68 : decode cX9_full 68 = .ok (.iload_n 2, 1) := by decide +kernel
theorem dX9_full_69 : decode cX9_full 69 = .ok (.iload 5, 2) := by decide +kernel
theorem dX9_full_71 : decode cX9_full 71 = .ok (.ifCond .eq 18, 3) := by decide +kernel
theorem dX9_full_74 : decode cX9_full 74 = .ok (.iconst 1, 1) := by decide +kernel
theorem dX9_full_75 : decode cX9_full 75 = .ok (.aload_n 0, 1) := by decide +kernel
theorem dX9_full_76 : decode cX9_full 76 = .ok (.sipush 407, 3) := by decide +kernel
theorem dX9_full_79 : decode cX9_full 79 = .ok (.iload 4, 2) := by decide +kernel
theorem dX9_full_81 : decode cX9_full 81 = .ok (.iadd, 1) := by decide +kernel
theorem dX9_full_82 : decode cX9_full 82 = .ok (.invokevirtual 85, 3) := by decide +kernel
theorem dX9_full_85 : decode cX9_full 85 = .ok (.ishl, 1) := by decide +kernel
theorem dX9_full_86 : decode cX9_full 86 = .ok (.goto 4, 3) := by decide +kernel
theorem dX9_full_89 : decode cX9_full 89 = .ok (.iconst 0, 1) := by decide +kernel
theorem dX9_full_90 : decode cX9_full 90 = .ok (.ior, 1) := by decide +kernel
theorem dX9_full_91 : decode cX9_full 91 = .ok (.istore_n 2, 1) := by decide +kernel
theorem dX9_full_92 : decode cX9_full 92 = .ok (.iload_n 3, 1) := by decide +kernel
theorem dX9_full_93 : decode cX9_full 93 = .ok (.iload 5, 2) := by decide +kernel
theorem dX9_full_95 : decode cX9_full 95 = .ok (.invokestatic 31, 3) := by decide +kernel
theorem dX9_full_98 : decode cX9_full 98 = .ok (.iadd, 1) := by decide +kernel
theorem dX9_full_99 : decode cX9_full 99 = .ok (.istore_n 3, 1) := by decide +kernel
theorem dX9_full_100 : decode cX9_full 100 = .ok (.iinc 4 1, 3) := by decide +kernel
theorem dX9_full_103 : decode cX9_full 103 = .ok (.goto (-72), 3) := by decide +kernel
theorem dX9_full_106 : decode cX9_full 106 = .ok (.aload_n 0, 1) := by decide +kernel
theorem dX9_full_107 : decode cX9_full 107 = .ok (.iconst 0, 1) := by decide +kernel
theorem dX9_full_108 : decode cX9_full 108 = .ok (.putfield 11, 3) := by decide +kernel
theorem dX9_full_111 : decode cX9_full 111 = .ok (.iconst 0, 1) := by decide +kernel
theorem dX9_full_112 : decode cX9_full 112 = .ok (.istore 4, 2) := by decide +kernel
theorem dX9_full_114 : decode cX9_full 114 = .ok (.iload 4, 2) := by decide +kernel
theorem dX9_full_116 : decode cX9_full 116 = .ok (.bipush 16, 2) := by decide +kernel
theorem dX9_full_118 : decode cX9_full 118 = .ok (.if_icmp .ge 26, 3) := by decide +kernel
theorem dX9_full_121 : decode cX9_full 121 = .ok (.iload_n 2, 1) := by decide +kernel
theorem dX9_full_122 : decode cX9_full 122 = .ok (.iload 4, 2) := by decide +kernel
theorem dX9_full_124 : decode cX9_full 124 = .ok (.ishr, 1) := by decide +kernel
theorem dX9_full_125 : decode cX9_full 125 = .ok (.iconst 1, 1) := by decide +kernel
theorem dX9_full_126 : decode cX9_full 126 = .ok (.iand, 1) := by decide +kernel
theorem dX9_full_127 : decode cX9_full 127 = .ok (.iconst 1, 1) := by decide +kernel
theorem dX9_full_128 : decode cX9_full 128 = .ok (.if_icmp .ne 10, 3) := by decide +kernel
theorem dX9_full_131 : decode cX9_full 131 = .ok (.aload_n 0, 1) := by decide +kernel
theorem dX9_full_132 : decode cX9_full 132 = .ok (.iload 4, 2) := by decide +kernel
theorem dX9_full_134 : decode cX9_full 134 = .ok (.i2l, 1) := by decide +kernel
theorem dX9_full_135 : decode cX9_full 135 = .ok (.invokevirtual 153, 3) := by decide +kernel
theorem dX9_full_138 : decode cX9_full 138 = .ok (.iinc 4 1, 3) := by decide +kernel
theorem dX9_full_141 : decode cX9_full 141 = .ok (.goto (-27), 3) := by decide +kernel
theorem dX9_full_144 : decode cX9_full 144 = .ok (.aload_n 0, 1) := by decide +kernel
theorem dX9_full_145 : decode cX9_full 145 = .ok (.getfield 11, 3) := by decide +kernel
theorem dX9_full_148 : decode cX9_full 148 = .ok (.istore 4, 2) := by decide +kernel
theorem dX9_full_150 : decode cX9_full 150 = .ok (.aload_n 0, 1) := by decide +kernel
theorem dX9_full_151 : decode cX9_full 151 = .ok (.iload_n 3, 1) := by decide +kernel
theorem dX9_full_152 : decode cX9_full 152 = .ok (.i2l, 1) := by decide +kernel
theorem dX9_full_153 : decode cX9_full 153 = .ok (.invokevirtual 153, 3) := by decide +kernel
theorem dX9_full_156 : decode cX9_full 156 = .ok (.iload 4, 2) := by decide +kernel
theorem dX9_full_158 : decode cX9_full 158 = .ok (.ireturn, 1) := by decide +kernel
theorem dX9_next_0 : decode cX9_next 0 = .ok (.aload_n 0, 1) := by decide +kernel
theorem dX9_next_1 : decode cX9_next 1 = .ok (.iconst 0, 1) := by decide +kernel
theorem dX9_next_2 : decode cX9_next 2 = .ok (.putfield 1, 3) := by decide +kernel
theorem dX9_next_5 : decode cX9_next 5 = .ok (.aload_n 0, 1) := by decide +kernel
theorem dX9_next_6 : decode cX9_next 6 = .ok (.iconst 0, 1) := by decide +kernel
theorem dX9_next_7 : decode cX9_next 7 = .ok (.putfield 109, 3) := by decide +kernel
theorem dX9_next_10 : decode cX9_next 10 = .ok (.iconst (-1), 1) := by decide +kernel
theorem dX9_next_11 : decode cX9_next 11 = .ok (.istore_n 1, 1) := by decide +kernel
theorem dX9_next_12 : decode cX9_next 12 = .ok (.iconst 0, 1) := by decide +kernel
theorem dX9_next_13 : decode cX9_next 13 = .ok (.istore_n 2, 1) := by decide +kernel
theorem dX9_next_14 : decode cX9_next 14 = .ok (.iload_n 2, 1) := by decide +kernel
theorem dX9_next_15 : decode cX9_next 15 = .ok (.bipush 16, 2) := by decide +kernel
theorem dX9_next_17 : decode cX9_next 17 = .ok (.if_icmp .ge 44, 3) := by decide +kernel
theorem dX9_next_20 : decode cX9_next 20 = .ok (.aload_n 0, 1) := by decide +kernel
theorem dX9_next_21 : decode cX9_next 21 = .ok (.iload_n 2, 1) := by decide +kernel
theorem dX9_next_22 : decode cX9_next 22 = .ok (.invokevirtual 99, 3) := by decide +kernel
theorem dX9_next_25 : decode cX9_next 25 = .ok (.ifCond .eq 30, 3) := by decide +kernel
theorem dX9_next_28 : decode cX9_next 28 = .ok (.iload_n 1, 1) := by decide +kernel
theorem dX9_next_29 : decode cX9_next 29 = .ok (.ifCond .lt 16, 3) := by decide +kernel
theorem dX9_next_32 : decode cX9_next 32 = .ok (.aload_n 0, 1) := by decide +kernel
theorem dX9_next_33 : decode cX9_next 33 = .ok (.sipush 231, 3) := by decide +kernel
theorem dX9_next_36 : decode cX9_next 36 = .ok (.iload_n 2, 1) := by decide +kernel
theorem dX9_next_37 : decode cX9_next 37 = .ok (.iadd, 1) := by decide +kernel
theorem dX9_next_38 : decode cX9_next 38 = .ok (.invokevirtual 85, 3) := by decide +kernel
theorem dX9_next_41 : decode cX9_next 41 = .ok (.iload_n 1, 1) := by decide +kernel
theorem dX9_next_42 : decode cX9_next 42 = .ok (.if_icmp .ge 13, 3) := by decide +kernel
theorem dX9_next_45 : decode cX9_next 45 = .ok (.aload_n 0, 1) := by decide +kernel
theorem dX9_next_46 : decode cX9_next 46 = .ok (.sipush 231, 3) := by decide +kernel
theorem dX9_next_49 : decode cX9_next 49 = .ok (.iload_n 2, 1) := by decide +kernel
theorem dX9_next_50 : decode cX9_next 50 = .ok (.iadd, 1) := by decide +kernel
theorem dX9_next_51 : decode cX9_next 51 = .ok (.invokevirtual 85, 3) := by decide +kernel
theorem dX9_next_54 : decode cX9_next 54 = .ok (.istore_n 1, 1) := by decide +kernel
theorem dX9_next_55 : decode cX9_next 55 = .ok (.iinc 2 1, 3) := by decide +kernel
theorem dX9_next_58 : decode cX9_next 58 = .ok (.goto (-44), 3) := by decide +kernel
theorem dX9_next_61 : decode cX9_next 61 = .ok (.iload_n 1, 1) := by decide +kernel
theorem dX9_next_62 : decode cX9_next 62 = .ok (.ifCond .ge 6, 3) := by decide +kernel
theorem dX9_next_65 : decode cX9_next 65 = .ok (.bipush (-2), 2) := by decide +kernel
theorem dX9_next_67 : decode cX9_next 67 = .ok (.ireturn, 1) := by decide +kernel
theorem dX9_next_68 : decode cX9_next 68 = .ok (.iconst 0, 1) := by decide +kernel
theorem dX9_next_69 : decode cX9_next 69 = .ok (.istore_n 2, 1) := by decide +kernel
theorem dX9_next_70 : decode cX9_next 70 = .ok (.iload_n 2, 1) := by decide +kernel
theorem dX9_next_71 : decode cX9_next 71 = .ok (.bipush 16, 2) := by decide +kernel
theorem dX9_next_73 : decode cX9_next 73 = .ok (.if_icmp .ge 36, 3) := by decide +kernel
theorem dX9_next_76 : decode cX9_next 76 = .ok (.aload_n 0, 1) := by decide +kernel
theorem dX9_next_77 : decode cX9_next 77 = .ok (.iload_n 2, 1) := by decide +kernel
theorem dX9_next_78 : decode cX9_next 78 = .ok (.invokevirtual 99, 3) := by decide +kernel
theorem dX9_next_81 : decode cX9_next 81 = .ok (.ifCond .eq 22, 3) := by decide +kernel
theorem dX9_next_84 : decode cX9_next 84 = .ok (.aload_n 0, 1) := by decide +kernel
theorem dX9_next_85 : decode cX9_next 85 = .ok (.sipush 231, 3) := by decide +kernel
theorem dX9_next_88 : decode cX9_next 88 = .ok (.iload_n 2, 1) := by decide +kernel
theorem dX9_next_89 : decode cX9_next 89 = .ok (.iadd, 1) := by decide +kernel
theorem dX9_next_90 : decode cX9_next 90 = .ok (.invokevirtual 85, 3) := by decide +kernel
theorem dX9_next_93 : decode cX9_next 93 = .ok (.iload_n 1, 1) := by decide +kernel
theorem dX9_next_94 : decode cX9_next 94 = .ok (.if_icmp .ne 9, 3) := by decide +kernel
theorem dX9_next_97 : decode cX9_next 97 = .ok (.aload_n 0, 1) := by decide +kernel
theorem dX9_next_98 : decode cX9_next 98 = .ok (.iload_n 2, 1) := by decide +kernel
theorem dX9_next_99 : decode cX9_next 99 = .ok (.iconst 0, 1) := by decide +kernel
theorem dX9_next_100 : decode cX9_next 100 = .ok (.invokevirtual 142, 3) := by decide +kernel
theorem dX9_next_103 : decode cX9_next 103 = .ok (.iinc 2 1, 3) := by decide +kernel
theorem dX9_next_106 : decode cX9_next 106 = .ok (.goto (-36), 3) := by decide +kernel
theorem dX9_next_109 : decode cX9_next 109 = .ok (.aload_n 0, 1) := by decide +kernel
theorem dX9_next_110 : decode cX9_next 110 = .ok (.invokevirtual 243, 3) := by decide +kernel
theorem dX9_next_113 : decode cX9_next 113 = .ok (.iload_n 1, 1) := by decide +kernel
theorem dX9_next_114 : decode cX9_next 114 = .ok (.ireturn, 1) := by decide +kernel
theorem dX9_rings_0 : decode cX9_rings 0 = .ok (.aload_n 0, 1) := by decide +kernel
theorem dX9_rings_1 : decode cX9_rings 1 = .ok (.iconst 0, 1) := by decide +kernel
theorem dX9_rings_2 : decode cX9_rings 2 = .ok (.putfield 1, 3) := by decide +kernel
theorem dX9_rings_5 : decode cX9_rings 5 = .ok (.iload_n 1, 1) := by decide +kernel
theorem dX9_rings_6 : decode cX9_rings 6 = .ok (.i2l, 1) := by decide +kernel
theorem dX9_rings_7 : decode cX9_rings 7 = .ok (.lconst 1, 1) := by decide +kernel
theorem dX9_rings_8 : decode cX9_rings 8 = .ok (.ldc2_w 183, 3) := by decide +kernel
theorem dX9_rings_11 : decode cX9_rings 11 = .ok (.invokestatic 21, 3) := by decide +kernel
theorem dX9_rings_14 : decode cX9_rings 14 = .ok (.ifCond .ne 5, 3) := by decide +kernel
theorem dX9_rings_17 : decode cX9_rings 17 = .ok (.iconst (-1), 1) := by decide +kernel
theorem dX9_rings_18 : decode cX9_rings 18 = .ok (.ireturn, 1) := by decide +kernel
theorem dX9_rings_19 : decode cX9_rings 19 = .ok (.aload_n 0, 1) := by decide +kernel
theorem dX9_rings_20 : decode cX9_rings 20 = .ok (.invokevirtual 246, 3) := by decide +kernel
theorem dX9_rings_23 : decode cX9_rings 23 = .ok (.aload_n 0, 1) := by decide +kernel
theorem dX9_rings_24 : decode cX9_rings 24 = .ok (.iload_n 1, 1) := by decide +kernel
theorem dX9_rings_25 : decode cX9_rings 25 = .ok (.invokevirtual 185, 3) := by decide +kernel
theorem dX9_rings_28 : decode cX9_rings 28 = .ok (.istore_n 2, 1) := by decide +kernel
theorem dX9_rings_29 : decode cX9_rings 29 = .ok (.aload_n 0, 1) := by decide +kernel
theorem dX9_rings_30 : decode cX9_rings 30 = .ok (.invokevirtual 249, 3) := by decide +kernel
theorem dX9_rings_33 : decode cX9_rings 33 = .ok (.iload_n 2, 1) := by decide +kernel
theorem dX9_rings_34 : decode cX9_rings 34 = .ok (.ifCond .lt 7, 3) := by decide +kernel
theorem dX9_rings_37 : decode cX9_rings 37 = .ok (.aload_n 0, 1) := by decide +kernel
theorem dX9_rings_38 : decode cX9_rings 38 = .ok (.invokevirtual 252, 3) := by decide +kernel
theorem dX9_rings_41 : decode cX9_rings 41 = .ok (.iload_n 2, 1) := by decide +kernel
theorem dX9_rings_42 : decode cX9_rings 42 = .ok (.ireturn, 1) := by decide +kernel
theorem dX9_quiet_0 : decode cX9_quiet 0 = .ok (.aload_n 0, 1) := by decide +kernel
theorem dX9_quiet_1 : decode cX9_quiet 1 = .ok (.iconst 0, 1) := by decide +kernel
theorem dX9_quiet_2 : decode cX9_quiet 2 = .ok (.putfield 1, 3) := by decide +kernel
theorem dX9_quiet_5 : decode cX9_quiet 5 = .ok (.iload_n 1, 1) := by decide +kernel
theorem dX9_quiet_6 : decode cX9_quiet 6 = .ok (.i2l, 1) := by decide +kernel
theorem dX9_quiet_7 : decode cX9_quiet 7 = .ok (.lconst 1, 1) := by decide +kernel
theorem dX9_quiet_8 : decode cX9_quiet 8 = .ok (.ldc2_w 183, 3) := by decide +kernel
theorem dX9_quiet_11 : decode cX9_quiet 11 = .ok (.invokestatic 21, 3) := by decide +kernel
theorem dX9_quiet_14 : decode cX9_quiet 14 = .ok (.ifCond .ne 5, 3) := by decide +kernel
theorem dX9_quiet_17 : decode cX9_quiet 17 = .ok (.iconst (-1), 1) := by decide +kernel
theorem dX9_quiet_18 : decode cX9_quiet 18 = .ok (.ireturn, 1) := by decide +kernel
theorem dX9_quiet_19 : decode cX9_quiet 19 = .ok (.aload_n 0, 1) := by decide +kernel
theorem dX9_quiet_20 : decode cX9_quiet 20 = .ok (.bipush 6, 2) := by decide +kernel
theorem dX9_quiet_22 : decode cX9_quiet 22 = .ok (.invokevirtual 85, 3) := by decide +kernel
theorem dX9_quiet_25 : decode cX9_quiet 25 = .ok (.iload_n 1, 1) := by decide +kernel
theorem dX9_quiet_26 : decode cX9_quiet 26 = .ok (.iadd, 1) := by decide +kernel
theorem dX9_quiet_27 : decode cX9_quiet 27 = .ok (.ldc 157, 2) := by decide +kernel
theorem dX9_quiet_29 : decode cX9_quiet 29 = .ok (.if_icmp .le 6, 3) := by decide +kernel
theorem dX9_quiet_32 : decode cX9_quiet 32 = .ok (.bipush (-4), 2) := by decide +kernel
theorem dX9_quiet_34 : decode cX9_quiet 34 = .ok (.ireturn, 1) := by decide +kernel
theorem dX9_quiet_35 : decode cX9_quiet 35 = .ok (.aload_n 0, 1) := by decide +kernel
theorem dX9_quiet_36 : decode cX9_quiet 36 = .ok (.invokevirtual 246, 3) := by decide +kernel
theorem dX9_quiet_39 : decode cX9_quiet 39 = .ok (.iconst 0, 1) := by decide +kernel
theorem dX9_quiet_40 : decode cX9_quiet 40 = .ok (.istore_n 2, 1) := by decide +kernel
theorem dX9_quiet_41 : decode cX9_quiet 41 = .ok (.iconst 0, 1) := by decide +kernel
theorem dX9_quiet_42 : decode cX9_quiet 42 = .ok (.istore_n 3, 1) := by decide +kernel
theorem dX9_quiet_43 : decode cX9_quiet 43 = .ok (.iconst 0, 1) := by decide +kernel
theorem dX9_quiet_44 : decode cX9_quiet 44 = .ok (.istore 4, 2) := by decide +kernel
theorem dX9_quiet_46 : decode cX9_quiet 46 = .ok (.iconst 0, 1) := by decide +kernel
theorem dX9_quiet_47 : decode cX9_quiet 47 = .ok (.istore 5, 2) := by decide +kernel
theorem dX9_quiet_49 : decode cX9_quiet 49 = .ok (.iload 5, 2) := by decide +kernel
theorem dX9_quiet_51 : decode cX9_quiet 51 = .ok (.iload_n 1, 1) := by decide +kernel
theorem dX9_quiet_52 : decode cX9_quiet 52 = .ok (.if_icmp .ge 60, 3) := by decide +kernel
theorem dX9_quiet_55 : decode cX9_quiet 55 = .ok (.aload_n 0, 1) := by decide +kernel
theorem dX9_quiet_56 : decode cX9_quiet 56 = .ok (.iconst 1, 1) := by decide +kernel
theorem dX9_quiet_57 : decode cX9_quiet 57 = .ok (.invokevirtual 185, 3) := by decide +kernel
theorem dX9_quiet_60 : decode cX9_quiet 60 = .ok (.istore 6, 2) := by decide +kernel
theorem dX9_quiet_62 : decode cX9_quiet 62 = .ok (.iload 6, 2) := by decide +kernel
theorem dX9_quiet_64 : decode cX9_quiet 64 = .ok (.ifCond .ne 10, 3) := by decide +kernel
theorem dX9_quiet_67 : decode cX9_quiet 67 = .ok (.iload 4, 2) := by decide +kernel
theorem dX9_quiet_69 : decode cX9_quiet 69 = .ok (.iconst 1, 1) := by decide +kernel
theorem dX9_quiet_70 : decode cX9_quiet 70 = .ok (.iadd, 1) := by decide +kernel
theorem dX9_quiet_71 : decode cX9_quiet 71 = .ok (.goto 4, 3) := by decide +kernel
theorem dX9_quiet_74 : decode cX9_quiet 74 = .ok (.iconst 0, 1) := by decide +kernel
theorem dX9_quiet_75 : decode cX9_quiet 75 = .ok (.istore 4, 2) := by decide +kernel
theorem dX9_quiet_77 : decode cX9_quiet 77 = .ok (.iload 4, 2) := by decide +kernel
theorem dX9_quiet_79 : decode cX9_quiet 79 = .ok (.iload_n 2, 1) := by decide +kernel
theorem dX9_quiet_80 : decode cX9_quiet 80 = .ok (.if_icmp .le 17, 3) := by decide +kernel
theorem dX9_quiet_83 : decode cX9_quiet 83 = .ok (.aload_n 0, 1) := by decide +kernel
theorem dX9_quiet_84 : decode cX9_quiet 84 = .ok (.bipush 6, 2) := by decide +kernel
theorem dX9_quiet_86 : decode cX9_quiet 86 = .ok (.invokevirtual 85, 3) := by decide +kernel
theorem dX9_quiet_89 : decode cX9_quiet 89 = .ok (.iload 4, 2) := by decide +kernel
theorem dX9_quiet_91 : decode cX9_quiet 91 = .ok (.isub, 1) := by decide +kernel
theorem dX9_quiet_92 : decode cX9_quiet 92 = .ok (.iconst 1, 1) := by decide +kernel
theorem dX9_quiet_93 : decode cX9_quiet 93 = .ok (.iadd, 1) := by decide +kernel
theorem dX9_quiet_94 : decode cX9_quiet 94 = .ok (.goto 4, 3) := by decide +kernel
theorem dX9_quiet_97 : decode cX9_quiet 97 = .ok (.iload_n 3, 1) := by decide +kernel
theorem dX9_quiet_98 : decode cX9_quiet 98 = .ok (.istore_n 3, 1) := by decide +kernel
theorem dX9_quiet_99 : decode cX9_quiet 99 = .ok (.iload_n 2, 1) := by decide +kernel
theorem dX9_quiet_100 : decode cX9_quiet 100 = .ok (.iload 4, 2) := by decide +kernel
theorem dX9_quiet_102 : decode cX9_quiet 102 = .ok (.invokestatic 150, 3) := by decide +kernel
theorem dX9_quiet_105 : decode cX9_quiet 105 = .ok (.istore_n 2, 1) := by decide +kernel
theorem dX9_quiet_106 : decode cX9_quiet 106 = .ok (.iinc 5 1, 3) := by decide +kernel
theorem dX9_quiet_109 : decode cX9_quiet 109 = .ok (.goto (-60), 3) := by decide +kernel
theorem dX9_quiet_112 : decode cX9_quiet 112 = .ok (.aload_n 0, 1) := by decide +kernel
theorem dX9_quiet_113 : decode cX9_quiet 113 = .ok (.invokevirtual 249, 3) := by decide +kernel
theorem dX9_quiet_116 : decode cX9_quiet 116 = .ok (.aload_n 0, 1) := by decide +kernel
theorem dX9_quiet_117 : decode cX9_quiet 117 = .ok (.iconst 0, 1) := by decide +kernel
theorem dX9_quiet_118 : decode cX9_quiet 118 = .ok (.putfield 11, 3) := by decide +kernel
theorem dX9_quiet_121 : decode cX9_quiet 121 = .ok (.aload_n 0, 1) := by decide +kernel
theorem dX9_quiet_122 : decode cX9_quiet 122 = .ok (.iload_n 3, 1) := by decide +kernel
theorem dX9_quiet_123 : decode cX9_quiet 123 = .ok (.i2l, 1) := by decide +kernel
theorem dX9_quiet_124 : decode cX9_quiet 124 = .ok (.invokevirtual 153, 3) := by decide +kernel
theorem dX9_quiet_127 : decode cX9_quiet 127 = .ok (.iload_n 2, 1) := by decide +kernel
theorem dX9_quiet_128 : decode cX9_quiet 128 = .ok (.ireturn, 1) := by decide +kernel
theorem dX9_ways_0 : decode cX9_ways 0 = .ok (.iconst 0, 1) := by decide +kernel
theorem dX9_ways_1 : decode cX9_ways 1 = .ok (.istore_n 3, 1) := by decide +kernel
theorem dX9_ways_2 : decode cX9_ways 2 = .ok (.iload_n 2, 1) := by decide +kernel
theorem dX9_ways_3 : decode cX9_ways 3 = .ok (.istore 4, 2) := by decide +kernel
theorem dX9_ways_5 : decode cX9_ways 5 = .ok (.iload 4, 2) := by decide +kernel
theorem dX9_ways_7 : decode cX9_ways 7 = .ok (.ifCond .eq 64, 3) := by decide +kernel
theorem dX9_ways_10 : decode cX9_ways 10 = .ok (.iload 4, 2) := by decide +kernel
theorem dX9_ways_12 : decode cX9_ways 12 = .ok (.ifCond .ge 10, 3) := by decide +kernel
theorem dX9_ways_15 : decode cX9_ways 15 = .ok (.aload_n 0, 1) := by decide +kernel
theorem dX9_ways_16 : decode cX9_ways 16 = .ok (.invokevirtual 135, 3) := by decide +kernel
theorem dX9_ways_19 : decode cX9_ways 19 = .ok (.goto 9, 3) := by decide +kernel
theorem dX9_ways_22 : decode cX9_ways 22 = .ok (.aload_n 0, 1) := by decide +kernel
theorem dX9_ways_23 : decode cX9_ways 23 = .ok (.iload 4, 2) := by decide +kernel
theorem dX9_ways_25 : decode cX9_ways 25 = .ok (.invokevirtual 93, 3) := by decide +kernel
theorem dX9_ways_28 : decode cX9_ways 28 = .ok (.istore 5, 2) := by decide +kernel
theorem dX9_ways_30 : decode cX9_ways 30 = .ok (.aload_n 0, 1) := by decide +kernel
theorem dX9_ways_31 : decode cX9_ways 31 = .ok (.getfield 67, 3) := by decide +kernel
theorem dX9_ways_34 : decode cX9_ways 34 = .ok (.iload_n 3, 1) := by decide +kernel
theorem dX9_ways_35 : decode cX9_ways 35 = .ok (.iload_n 1, 1) := by decide +kernel
theorem dX9_ways_36 : decode cX9_ways 36 = .ok (.iload 5, 2) := by decide +kernel
theorem dX9_ways_38 : decode cX9_ways 38 = .ok (.idiv, 1) := by decide +kernel
theorem dX9_ways_39 : decode cX9_ways 39 = .ok (.iload 5, 2) := by decide +kernel
theorem dX9_ways_41 : decode cX9_ways 41 = .ok (.imul, 1) := by decide +kernel
theorem dX9_ways_42 : decode cX9_ways 42 = .ok (.iastore, 1) := by decide +kernel
theorem dX9_ways_43 : decode cX9_ways 43 = .ok (.aload_n 0, 1) := by decide +kernel
theorem dX9_ways_44 : decode cX9_ways 44 = .ok (.iload_n 1, 1) := by decide +kernel
theorem dX9_ways_45 : decode cX9_ways 45 = .ok (.aload_n 0, 1) := by decide +kernel
theorem dX9_ways_46 : decode cX9_ways 46 = .ok (.getfield 67, 3) := by decide +kernel
theorem dX9_ways_49 : decode cX9_ways 49 = .ok (.iload_n 3, 1) := by decide +kernel
theorem dX9_ways_50 : decode cX9_ways 50 = .ok (.iaload, 1) := by decide +kernel
theorem dX9_ways_51 : decode cX9_ways 51 = .ok (.isub, 1) := by decide +kernel
theorem dX9_ways_52 : decode cX9_ways 52 = .ok (.invokevirtual 96, 3) := by decide +kernel
theorem dX9_ways_55 : decode cX9_ways 55 = .ok (.istore 4, 2) := by decide +kernel
theorem dX9_ways_57 : decode cX9_ways 57 = .ok (.aload_n 0, 1) := by decide +kernel
theorem dX9_ways_58 : decode cX9_ways 58 = .ok (.getfield 70, 3) := by decide +kernel
theorem dX9_ways_61 : decode cX9_ways 61 = .ok (.iload_n 3, 1) := by decide +kernel
theorem dX9_ways_62 : decode cX9_ways 62 = .ok (.iload 4, 2) := by decide +kernel
theorem dX9_ways_64 : decode cX9_ways 64 = .ok (.iastore, 1) := by decide +kernel
theorem dX9_ways_65 : decode cX9_ways 65 = .ok (.iinc 3 1, 3) := by decide +kernel
theorem dX9_ways_68 : decode cX9_ways 68 = .ok (.goto (-63), 3) := by decide +kernel
theorem dX9_ways_71 : decode cX9_ways 71 = .ok (.iload_n 3, 1) := by decide +kernel
theorem dX9_ways_72 : decode cX9_ways 72 = .ok (.ireturn, 1) := by decide +kernel
theorem dX9_movesOf_0 : decode cX9_movesOf 0 = .ok (.aload_n 0, 1) := by decide +kernel
theorem dX9_movesOf_1 : decode cX9_movesOf 1 = .ok (.aload_n 0, 1) := by decide +kernel
theorem dX9_movesOf_2 : decode cX9_movesOf 2 = .ok (.sipush 231, 3) := by decide +kernel
theorem dX9_movesOf_5 : decode cX9_movesOf 5 = .ok (.iload_n 1, 1) := by decide +kernel
theorem dX9_movesOf_6 : decode cX9_movesOf 6 = .ok (.iadd, 1) := by decide +kernel
theorem dX9_movesOf_7 : decode cX9_movesOf 7 = .ok (.invokevirtual 85, 3) := by decide +kernel
theorem dX9_movesOf_10 : decode cX9_movesOf 10 = .ok (.aload_n 0, 1) := by decide +kernel
theorem dX9_movesOf_11 : decode cX9_movesOf 11 = .ok (.sipush 391, 3) := by decide +kernel
theorem dX9_movesOf_14 : decode cX9_movesOf 14 = .ok (.iload_n 1, 1) := by decide +kernel
theorem dX9_movesOf_15 : decode cX9_movesOf 15 = .ok (.iadd, 1) := by decide +kernel
theorem dX9_movesOf_16 : decode cX9_movesOf 16 = .ok (.invokevirtual 85, 3) := by decide +kernel
theorem dX9_movesOf_19 : decode cX9_movesOf 19 = .ok (.invokevirtual 255, 3) := by decide +kernel
theorem dX9_movesOf_22 : decode cX9_movesOf 22 = .ok (.ireturn, 1) := by decide +kernel
theorem dX9_moves_0 : decode cX9_moves 0 = .ok (.aload_n 0, 1) := by decide +kernel
theorem dX9_moves_1 : decode cX9_moves 1 = .ok (.iconst 0, 1) := by decide +kernel
theorem dX9_moves_2 : decode cX9_moves 2 = .ok (.putfield 1, 3) := by decide +kernel
theorem dX9_moves_5 : decode cX9_moves 5 = .ok (.aload_n 0, 1) := by decide +kernel
theorem dX9_moves_6 : decode cX9_moves 6 = .ok (.iload_n 1, 1) := by decide +kernel
theorem dX9_moves_7 : decode cX9_moves 7 = .ok (.invokevirtual 89, 3) := by decide +kernel
theorem dX9_moves_10 : decode cX9_moves 10 = .ok (.ifCond .ne 5, 3) := by decide +kernel
theorem dX9_moves_13 : decode cX9_moves 13 = .ok (.iconst (-1), 1) := by decide +kernel
theorem dX9_moves_14 : decode cX9_moves 14 = .ok (.ireturn, 1) := by decide +kernel
theorem dX9_moves_15 : decode cX9_moves 15 = .ok (.aload_n 0, 1) := by decide +kernel
theorem dX9_moves_16 : decode cX9_moves 16 = .ok (.sipush 343, 3) := by decide +kernel
theorem dX9_moves_19 : decode cX9_moves 19 = .ok (.iload_n 1, 1) := by decide +kernel
theorem dX9_moves_20 : decode cX9_moves 20 = .ok (.iadd, 1) := by decide +kernel
theorem dX9_moves_21 : decode cX9_moves 21 = .ok (.invokevirtual 85, 3) := by decide +kernel
theorem dX9_moves_24 : decode cX9_moves 24 = .ok (.iconst 1, 1) := by decide +kernel
theorem dX9_moves_25 : decode cX9_moves 25 = .ok (.if_icmp .ne 8, 3) := by decide +kernel
theorem dX9_moves_28 : decode cX9_moves 28 = .ok (.bipush (-2), 2) := by decide +kernel
theorem dX9_moves_30 : decode cX9_moves 30 = .ok (.goto 8, 3) := by decide +kernel
theorem dX9_moves_33 : decode cX9_moves 33 = .ok (.aload_n 0, 1) := by decide +kernel
theorem dX9_moves_34 : decode cX9_moves 34 = .ok (.iload_n 1, 1) := by decide +kernel
theorem dX9_moves_35 : decode cX9_moves 35 = .ok (.invokevirtual 258, 3) := by decide +kernel
theorem dX9_moves_38 : decode cX9_moves 38 = .ok (.ireturn, 1) := by decide +kernel
theorem dX9_way_0 : decode cX9_way 0 = .ok (.aload_n 0, 1) := by decide +kernel
theorem dX9_way_1 : decode cX9_way 1 = .ok (.iconst 0, 1) := by decide +kernel
theorem dX9_way_2 : decode cX9_way 2 = .ok (.putfield 1, 3) := by decide +kernel
theorem dX9_way_5 : decode cX9_way 5 = .ok (.aload_n 0, 1) := by decide +kernel
theorem dX9_way_6 : decode cX9_way 6 = .ok (.iload_n 1, 1) := by decide +kernel
theorem dX9_way_7 : decode cX9_way 7 = .ok (.invokevirtual 89, 3) := by decide +kernel
theorem dX9_way_10 : decode cX9_way 10 = .ok (.ifCond .ne 5, 3) := by decide +kernel
theorem dX9_way_13 : decode cX9_way 13 = .ok (.iconst (-1), 1) := by decide +kernel
theorem dX9_way_14 : decode cX9_way 14 = .ok (.ireturn, 1) := by decide +kernel
theorem dX9_way_15 : decode cX9_way 15 = .ok (.aload_n 0, 1) := by decide +kernel
theorem dX9_way_16 : decode cX9_way 16 = .ok (.sipush 343, 3) := by decide +kernel
theorem dX9_way_19 : decode cX9_way 19 = .ok (.iload_n 1, 1) := by decide +kernel
theorem dX9_way_20 : decode cX9_way 20 = .ok (.iadd, 1) := by decide +kernel
theorem dX9_way_21 : decode cX9_way 21 = .ok (.invokevirtual 85, 3) := by decide +kernel
theorem dX9_way_24 : decode cX9_way 24 = .ok (.iconst 1, 1) := by decide +kernel
theorem dX9_way_25 : decode cX9_way 25 = .ok (.if_icmp .ne 6, 3) := by decide +kernel
end
section
theorem dX9_way_28 : decode cX9_way 28 = .ok (.bipush (-2), 2) := by decide +kernel
theorem dX9_way_30 : decode cX9_way 30 = .ok (.ireturn, 1) := by decide +kernel
theorem dX9_way_31 : decode cX9_way 31 = .ok (.aload_n 0, 1) := by decide +kernel
theorem dX9_way_32 : decode cX9_way 32 = .ok (.iload_n 1, 1) := by decide +kernel
theorem dX9_way_33 : decode cX9_way 33 = .ok (.invokevirtual 258, 3) := by decide +kernel
theorem dX9_way_36 : decode cX9_way 36 = .ok (.istore_n 2, 1) := by decide +kernel
theorem dX9_way_37 : decode cX9_way 37 = .ok (.aload_n 0, 1) := by decide +kernel
theorem dX9_way_38 : decode cX9_way 38 = .ok (.iconst 0, 1) := by decide +kernel
theorem dX9_way_39 : decode cX9_way 39 = .ok (.putfield 11, 3) := by decide +kernel
theorem dX9_way_42 : decode cX9_way 42 = .ok (.aload_n 0, 1) := by decide +kernel
theorem dX9_way_43 : decode cX9_way 43 = .ok (.aload_n 0, 1) := by decide +kernel
theorem dX9_way_44 : decode cX9_way 44 = .ok (.sipush 391, 3) := by decide +kernel
theorem dX9_way_47 : decode cX9_way 47 = .ok (.iload_n 1, 1) := by decide +kernel
theorem dX9_way_48 : decode cX9_way 48 = .ok (.iadd, 1) := by decide +kernel
theorem dX9_way_49 : decode cX9_way 49 = .ok (.invokevirtual 85, 3) := by decide +kernel
theorem dX9_way_52 : decode cX9_way 52 = .ok (.i2l, 1) := by decide +kernel
theorem dX9_way_53 : decode cX9_way 53 = .ok (.invokevirtual 153, 3) := by decide +kernel
theorem dX9_way_56 : decode cX9_way 56 = .ok (.iconst 0, 1) := by decide +kernel
theorem dX9_way_57 : decode cX9_way 57 = .ok (.istore_n 3, 1) := by decide +kernel
theorem dX9_way_58 : decode cX9_way 58 = .ok (.iload_n 3, 1) := by decide +kernel
theorem dX9_way_59 : decode cX9_way 59 = .ok (.iload_n 2, 1) := by decide +kernel
theorem dX9_way_60 : decode cX9_way 60 = .ok (.if_icmp .ge 31, 3) := by decide +kernel
theorem dX9_way_63 : decode cX9_way 63 = .ok (.aload_n 0, 1) := by decide +kernel
theorem dX9_way_64 : decode cX9_way 64 = .ok (.aload_n 0, 1) := by decide +kernel
theorem dX9_way_65 : decode cX9_way 65 = .ok (.getfield 67, 3) := by decide +kernel
theorem dX9_way_68 : decode cX9_way 68 = .ok (.iload_n 3, 1) := by decide +kernel
theorem dX9_way_69 : decode cX9_way 69 = .ok (.iaload, 1) := by decide +kernel
theorem dX9_way_70 : decode cX9_way 70 = .ok (.i2l, 1) := by decide +kernel
theorem dX9_way_71 : decode cX9_way 71 = .ok (.invokevirtual 153, 3) := by decide +kernel
theorem dX9_way_74 : decode cX9_way 74 = .ok (.aload_n 0, 1) := by decide +kernel
theorem dX9_way_75 : decode cX9_way 75 = .ok (.aload_n 0, 1) := by decide +kernel
theorem dX9_way_76 : decode cX9_way 76 = .ok (.getfield 70, 3) := by decide +kernel
theorem dX9_way_79 : decode cX9_way 79 = .ok (.iload_n 3, 1) := by decide +kernel
theorem dX9_way_80 : decode cX9_way 80 = .ok (.iaload, 1) := by decide +kernel
theorem dX9_way_81 : decode cX9_way 81 = .ok (.i2l, 1) := by decide +kernel
theorem dX9_way_82 : decode cX9_way 82 = .ok (.invokevirtual 153, 3) := by decide +kernel
theorem dX9_way_85 : decode cX9_way 85 = .ok (.iinc 3 1, 3) := by decide +kernel
theorem dX9_way_88 : decode cX9_way 88 = .ok (.goto (-30), 3) := by decide +kernel
theorem dX9_way_91 : decode cX9_way 91 = .ok (.aload_n 0, 1) := by decide +kernel
theorem dX9_way_92 : decode cX9_way 92 = .ok (.aload_n 0, 1) := by decide +kernel
theorem dX9_way_93 : decode cX9_way 93 = .ok (.sipush 231, 3) := by decide +kernel
theorem dX9_way_96 : decode cX9_way 96 = .ok (.iload_n 1, 1) := by decide +kernel
theorem dX9_way_97 : decode cX9_way 97 = .ok (.iadd, 1) := by decide +kernel
theorem dX9_way_98 : decode cX9_way 98 = .ok (.invokevirtual 85, 3) := by decide +kernel
theorem dX9_way_101 : decode cX9_way 101 = .ok (.i2l, 1) := by decide +kernel
theorem dX9_way_102 : decode cX9_way 102 = .ok (.invokevirtual 153, 3) := by decide +kernel
theorem dX9_way_105 : decode cX9_way 105 = .ok (.iload_n 2, 1) := by decide +kernel
theorem dX9_way_106 : decode cX9_way 106 = .ok (.ireturn, 1) := by decide +kernel
theorem dX9_costOf_0 : decode cX9_costOf 0 = .ok (.aload_n 0, 1) := by decide +kernel
theorem dX9_costOf_1 : decode cX9_costOf 1 = .ok (.invokevirtual 246, 3) := by decide +kernel
theorem dX9_costOf_4 : decode cX9_costOf 4 = .ok (.aload_n 0, 1) := by decide +kernel
theorem dX9_costOf_5 : decode cX9_costOf 5 = .ok (.iload_n 1, 1) := by decide +kernel
theorem dX9_costOf_6 : decode cX9_costOf 6 = .ok (.invokevirtual 180, 3) := by decide +kernel
theorem dX9_costOf_9 : decode cX9_costOf 9 = .ok (.iconst 0, 1) := by decide +kernel
theorem dX9_costOf_10 : decode cX9_costOf 10 = .ok (.istore_n 2, 1) := by decide +kernel
theorem dX9_costOf_11 : decode cX9_costOf 11 = .ok (.aload_n 0, 1) := by decide +kernel
theorem dX9_costOf_12 : decode cX9_costOf 12 = .ok (.iconst 0, 1) := by decide +kernel
theorem dX9_costOf_13 : decode cX9_costOf 13 = .ok (.putfield 261, 3) := by decide +kernel
theorem dX9_costOf_16 : decode cX9_costOf 16 = .ok (.aload_n 0, 1) := by decide +kernel
theorem dX9_costOf_17 : decode cX9_costOf 17 = .ok (.iconst 0, 1) := by decide +kernel
theorem dX9_costOf_18 : decode cX9_costOf 18 = .ok (.putfield 264, 3) := by decide +kernel
theorem dX9_costOf_21 : decode cX9_costOf 21 = .ok (.iconst 0, 1) := by decide +kernel
theorem dX9_costOf_22 : decode cX9_costOf 22 = .ok (.istore_n 3, 1) := by decide +kernel
theorem dX9_costOf_23 : decode cX9_costOf 23 = .ok (.iload_n 3, 1) := by decide +kernel
theorem dX9_costOf_24 : decode cX9_costOf 24 = .ok (.bipush 16, 2) := by decide +kernel
theorem dX9_costOf_26 : decode cX9_costOf 26 = .ok (.if_icmp .ge 72, 3) := by decide +kernel
theorem dX9_costOf_29 : decode cX9_costOf 29 = .ok (.aload_n 0, 1) := by decide +kernel
theorem dX9_costOf_30 : decode cX9_costOf 30 = .ok (.iload_n 3, 1) := by decide +kernel
theorem dX9_costOf_31 : decode cX9_costOf 31 = .ok (.invokevirtual 99, 3) := by decide +kernel
theorem dX9_costOf_34 : decode cX9_costOf 34 = .ok (.ifCond .eq 58, 3) := by decide +kernel
theorem dX9_costOf_37 : decode cX9_costOf 37 = .ok (.aload_n 0, 1) := by decide +kernel
theorem dX9_costOf_38 : decode cX9_costOf 38 = .ok (.iload_n 3, 1) := by decide +kernel
theorem dX9_costOf_39 : decode cX9_costOf 39 = .ok (.invokevirtual 258, 3) := by decide +kernel
theorem dX9_costOf_42 : decode cX9_costOf 42 = .ok (.istore 4, 2) := by decide +kernel
theorem dX9_costOf_44 : decode cX9_costOf 44 = .ok (.iload_n 2, 1) := by decide +kernel
theorem dX9_costOf_45 : decode cX9_costOf 45 = .ok (.iload 4, 2) := by decide +kernel
theorem dX9_costOf_47 : decode cX9_costOf 47 = .ok (.iadd, 1) := by decide +kernel
theorem dX9_costOf_48 : decode cX9_costOf 48 = .ok (.istore_n 2, 1) := by decide +kernel
theorem dX9_costOf_49 : decode cX9_costOf 49 = .ok (.aload_n 0, 1) := by decide +kernel
theorem dX9_costOf_50 : decode cX9_costOf 50 = .ok (.dup, 1) := by decide +kernel
theorem dX9_costOf_51 : decode cX9_costOf 51 = .ok (.getfield 261, 3) := by decide +kernel
theorem dX9_costOf_54 : decode cX9_costOf 54 = .ok (.aload_n 0, 1) := by decide +kernel
theorem dX9_costOf_55 : decode cX9_costOf 55 = .ok (.sipush 391, 3) := by decide +kernel
theorem dX9_costOf_58 : decode cX9_costOf 58 = .ok (.iload_n 3, 1) := by decide +kernel
theorem dX9_costOf_59 : decode cX9_costOf 59 = .ok (.iadd, 1) := by decide +kernel
theorem dX9_costOf_60 : decode cX9_costOf 60 = .ok (.invokevirtual 85, 3) := by decide +kernel
theorem dX9_costOf_63 : decode cX9_costOf 63 = .ok (.iconst (-1), 1) := by decide +kernel
theorem dX9_costOf_64 : decode cX9_costOf 64 = .ok (.if_icmp .ne 7, 3) := by decide +kernel
theorem dX9_costOf_67 : decode cX9_costOf 67 = .ok (.iconst 1, 1) := by decide +kernel
theorem dX9_costOf_68 : decode cX9_costOf 68 = .ok (.goto 4, 3) := by decide +kernel
theorem dX9_costOf_71 : decode cX9_costOf 71 = .ok (.iconst 0, 1) := by decide +kernel
theorem dX9_costOf_72 : decode cX9_costOf 72 = .ok (.invokestatic 31, 3) := by decide +kernel
theorem dX9_costOf_75 : decode cX9_costOf 75 = .ok (.iadd, 1) := by decide +kernel
theorem dX9_costOf_76 : decode cX9_costOf 76 = .ok (.putfield 261, 3) := by decide +kernel
theorem dX9_costOf_79 : decode cX9_costOf 79 = .ok (.aload_n 0, 1) := by decide +kernel
theorem dX9_costOf_80 : decode cX9_costOf 80 = .ok (.aload_n 0, 1) := by decide +kernel
theorem dX9_costOf_81 : decode cX9_costOf 81 = .ok (.getfield 264, 3) := by decide +kernel
theorem dX9_costOf_84 : decode cX9_costOf 84 = .ok (.iload 4, 2) := by decide +kernel
theorem dX9_costOf_86 : decode cX9_costOf 86 = .ok (.invokestatic 150, 3) := by decide +kernel
theorem dX9_costOf_89 : decode cX9_costOf 89 = .ok (.putfield 264, 3) := by decide +kernel
theorem dX9_costOf_92 : decode cX9_costOf 92 = .ok (.iinc 3 1, 3) := by decide +kernel
theorem dX9_costOf_95 : decode cX9_costOf 95 = .ok (.goto (-72), 3) := by decide +kernel
theorem dX9_costOf_98 : decode cX9_costOf 98 = .ok (.aload_n 0, 1) := by decide +kernel
theorem dX9_costOf_99 : decode cX9_costOf 99 = .ok (.invokevirtual 249, 3) := by decide +kernel
theorem dX9_costOf_102 : decode cX9_costOf 102 = .ok (.iload_n 2, 1) := by decide +kernel
theorem dX9_costOf_103 : decode cX9_costOf 103 = .ok (.ireturn, 1) := by decide +kernel
theorem dX9_cost_0 : decode cX9_cost 0 = .ok (.aload_n 0, 1) := by decide +kernel
theorem dX9_cost_1 : decode cX9_cost 1 = .ok (.iconst 0, 1) := by decide +kernel
theorem dX9_cost_2 : decode cX9_cost 2 = .ok (.putfield 1, 3) := by decide +kernel
theorem dX9_cost_5 : decode cX9_cost 5 = .ok (.aload_n 0, 1) := by decide +kernel
theorem dX9_cost_6 : decode cX9_cost 6 = .ok (.iload_n 1, 1) := by decide +kernel
theorem dX9_cost_7 : decode cX9_cost 7 = .ok (.iload_n 2, 1) := by decide +kernel
theorem dX9_cost_8 : decode cX9_cost 8 = .ok (.iload_n 3, 1) := by decide +kernel
theorem dX9_cost_9 : decode cX9_cost 9 = .ok (.iload 4, 2) := by decide +kernel
theorem dX9_cost_11 : decode cX9_cost 11 = .ok (.invokevirtual 173, 3) := by decide +kernel
theorem dX9_cost_14 : decode cX9_cost 14 = .ok (.istore 5, 2) := by decide +kernel
theorem dX9_cost_16 : decode cX9_cost 16 = .ok (.iload 5, 2) := by decide +kernel
theorem dX9_cost_18 : decode cX9_cost 18 = .ok (.ifCond .ge 5, 3) := by decide +kernel
theorem dX9_cost_21 : decode cX9_cost 21 = .ok (.iconst (-1), 1) := by decide +kernel
theorem dX9_cost_22 : decode cX9_cost 22 = .ok (.ireturn, 1) := by decide +kernel
theorem dX9_cost_23 : decode cX9_cost 23 = .ok (.aload_n 0, 1) := by decide +kernel
theorem dX9_cost_24 : decode cX9_cost 24 = .ok (.iload 5, 2) := by decide +kernel
theorem dX9_cost_26 : decode cX9_cost 26 = .ok (.invokevirtual 267, 3) := by decide +kernel
theorem dX9_cost_29 : decode cX9_cost 29 = .ok (.istore 6, 2) := by decide +kernel
theorem dX9_cost_31 : decode cX9_cost 31 = .ok (.aload_n 0, 1) := by decide +kernel
theorem dX9_cost_32 : decode cX9_cost 32 = .ok (.iconst 0, 1) := by decide +kernel
theorem dX9_cost_33 : decode cX9_cost 33 = .ok (.putfield 11, 3) := by decide +kernel
theorem dX9_cost_36 : decode cX9_cost 36 = .ok (.aload_n 0, 1) := by decide +kernel
theorem dX9_cost_37 : decode cX9_cost 37 = .ok (.aload_n 0, 1) := by decide +kernel
theorem dX9_cost_38 : decode cX9_cost 38 = .ok (.getfield 261, 3) := by decide +kernel
theorem dX9_cost_41 : decode cX9_cost 41 = .ok (.i2l, 1) := by decide +kernel
theorem dX9_cost_42 : decode cX9_cost 42 = .ok (.invokevirtual 153, 3) := by decide +kernel
theorem dX9_cost_45 : decode cX9_cost 45 = .ok (.aload_n 0, 1) := by decide +kernel
theorem dX9_cost_46 : decode cX9_cost 46 = .ok (.aload_n 0, 1) := by decide +kernel
theorem dX9_cost_47 : decode cX9_cost 47 = .ok (.getfield 264, 3) := by decide +kernel
theorem dX9_cost_50 : decode cX9_cost 50 = .ok (.i2l, 1) := by decide +kernel
theorem dX9_cost_51 : decode cX9_cost 51 = .ok (.invokevirtual 153, 3) := by decide +kernel
theorem dX9_cost_54 : decode cX9_cost 54 = .ok (.iload 6, 2) := by decide +kernel
theorem dX9_cost_56 : decode cX9_cost 56 = .ok (.ireturn, 1) := by decide +kernel
theorem dX9_best_0 : decode cX9_best 0 = .ok (.aload_n 0, 1) := by decide +kernel
theorem dX9_best_1 : decode cX9_best 1 = .ok (.iconst 0, 1) := by decide +kernel
theorem dX9_best_2 : decode cX9_best 2 = .ok (.putfield 1, 3) := by decide +kernel
theorem dX9_best_5 : decode cX9_best 5 = .ok (.iload_n 1, 1) := by decide +kernel
theorem dX9_best_6 : decode cX9_best 6 = .ok (.i2l, 1) := by decide +kernel
theorem dX9_best_7 : decode cX9_best 7 = .ok (.lconst 1, 1) := by decide +kernel
theorem dX9_best_8 : decode cX9_best 8 = .ok (.ldc2_w 270, 3) := by decide +kernel
theorem dX9_best_11 : decode cX9_best 11 = .ok (.invokestatic 21, 3) := by decide +kernel
theorem dX9_best_14 : decode cX9_best 14 = .ok (.ifCond .ne 5, 3) := by decide +kernel
theorem dX9_best_17 : decode cX9_best 17 = .ok (.iconst (-1), 1) := by decide +kernel
theorem dX9_best_18 : decode cX9_best 18 = .ok (.ireturn, 1) := by decide +kernel
theorem dX9_best_19 : decode cX9_best 19 = .ok (.iconst (-1), 1) := by decide +kernel
theorem dX9_best_20 : decode cX9_best 20 = .ok (.istore_n 2, 1) := by decide +kernel
theorem dX9_best_21 : decode cX9_best 21 = .ok (.iconst 0, 1) := by decide +kernel
theorem dX9_best_22 : decode cX9_best 22 = .ok (.istore_n 3, 1) := by decide +kernel
theorem dX9_best_23 : decode cX9_best 23 = .ok (.iconst 2, 1) := by decide +kernel
theorem dX9_best_24 : decode cX9_best 24 = .ok (.istore 4, 2) := by decide +kernel
theorem dX9_best_26 : decode cX9_best 26 = .ok (.iload 4, 2) := by decide +kernel
theorem dX9_best_28 : decode cX9_best 28 = .ok (.bipush 16, 2) := by decide +kernel
theorem dX9_best_30 : decode cX9_best 30 = .ok (.if_icmp .gt 71, 3) := by decide +kernel
theorem dX9_best_33 : decode cX9_best 33 = .ok (.iconst 0, 1) := by decide +kernel
theorem dX9_best_34 : decode cX9_best 34 = .ok (.istore 5, 2) := by decide +kernel
theorem dX9_best_36 : decode cX9_best 36 = .ok (.iload 5, 2) := by decide +kernel
theorem dX9_best_38 : decode cX9_best 38 = .ok (.iconst 4, 1) := by decide +kernel
theorem dX9_best_39 : decode cX9_best 39 = .ok (.if_icmp .ge 28, 3) := by decide +kernel
theorem dX9_best_42 : decode cX9_best 42 = .ok (.aload_n 0, 1) := by decide +kernel
theorem dX9_best_43 : decode cX9_best 43 = .ok (.getfield 61, 3) := by decide +kernel
theorem dX9_best_46 : decode cX9_best 46 = .ok (.iload 5, 2) := by decide +kernel
theorem dX9_best_48 : decode cX9_best 48 = .ok (.iload 5, 2) := by decide +kernel
theorem dX9_best_50 : decode cX9_best 50 = .ok (.iload_n 1, 1) := by decide +kernel
theorem dX9_best_51 : decode cX9_best 51 = .ok (.if_icmp .ge 8, 3) := by decide +kernel
theorem dX9_best_54 : decode cX9_best 54 = .ok (.iload 4, 2) := by decide +kernel
theorem dX9_best_56 : decode cX9_best 56 = .ok (.goto 4, 3) := by decide +kernel
theorem dX9_best_59 : decode cX9_best 59 = .ok (.iconst 0, 1) := by decide +kernel
theorem dX9_best_60 : decode cX9_best 60 = .ok (.iastore, 1) := by decide +kernel
theorem dX9_best_61 : decode cX9_best 61 = .ok (.iinc 5 1, 3) := by decide +kernel
theorem dX9_best_64 : decode cX9_best 64 = .ok (.goto (-28), 3) := by decide +kernel
theorem dX9_best_67 : decode cX9_best 67 = .ok (.aload_n 0, 1) := by decide +kernel
theorem dX9_best_68 : decode cX9_best 68 = .ok (.iload_n 1, 1) := by decide +kernel
theorem dX9_best_69 : decode cX9_best 69 = .ok (.invokevirtual 267, 3) := by decide +kernel
theorem dX9_best_72 : decode cX9_best 72 = .ok (.iload_n 1, 1) := by decide +kernel
theorem dX9_best_73 : decode cX9_best 73 = .ok (.iload 4, 2) := by decide +kernel
theorem dX9_best_75 : decode cX9_best 75 = .ok (.imul, 1) := by decide +kernel
theorem dX9_best_76 : decode cX9_best 76 = .ok (.iadd, 1) := by decide +kernel
theorem dX9_best_77 : decode cX9_best 77 = .ok (.istore 5, 2) := by decide +kernel
theorem dX9_best_79 : decode cX9_best 79 = .ok (.iload_n 2, 1) := by decide +kernel
theorem dX9_best_80 : decode cX9_best 80 = .ok (.ifCond .lt 9, 3) := by decide +kernel
theorem dX9_best_83 : decode cX9_best 83 = .ok (.iload 5, 2) := by decide +kernel
theorem dX9_best_85 : decode cX9_best 85 = .ok (.iload_n 3, 1) := by decide +kernel
theorem dX9_best_86 : decode cX9_best 86 = .ok (.if_icmp .ge 9, 3) := by decide +kernel
theorem dX9_best_89 : decode cX9_best 89 = .ok (.iload 4, 2) := by decide +kernel
theorem dX9_best_91 : decode cX9_best 91 = .ok (.istore_n 2, 1) := by decide +kernel
theorem dX9_best_92 : decode cX9_best 92 = .ok (.iload 5, 2) := by decide +kernel
theorem dX9_best_94 : decode cX9_best 94 = .ok (.istore_n 3, 1) := by decide +kernel
theorem dX9_best_95 : decode cX9_best 95 = .ok (.iinc 4 1, 3) := by decide +kernel
theorem dX9_best_98 : decode cX9_best 98 = .ok (.goto (-72), 3) := by decide +kernel
theorem dX9_best_101 : decode cX9_best 101 = .ok (.aload_n 0, 1) := by decide +kernel
theorem dX9_best_102 : decode cX9_best 102 = .ok (.iconst 0, 1) := by decide +kernel
theorem dX9_best_103 : decode cX9_best 103 = .ok (.putfield 11, 3) := by decide +kernel
theorem dX9_best_106 : decode cX9_best 106 = .ok (.aload_n 0, 1) := by decide +kernel
theorem dX9_best_107 : decode cX9_best 107 = .ok (.iload_n 3, 1) := by decide +kernel
theorem dX9_best_108 : decode cX9_best 108 = .ok (.i2l, 1) := by decide +kernel
theorem dX9_best_109 : decode cX9_best 109 = .ok (.invokevirtual 153, 3) := by decide +kernel
theorem dX9_best_112 : decode cX9_best 112 = .ok (.iload_n 2, 1) := by decide +kernel
theorem dX9_best_113 : decode cX9_best 113 = .ok (.ireturn, 1) := by decide +kernel
theorem dX9_ahead_0 : decode cX9_ahead 0 = .ok (.aload_n 0, 1) := by decide +kernel
theorem dX9_ahead_1 : decode cX9_ahead 1 = .ok (.iconst 0, 1) := by decide +kernel
theorem dX9_ahead_2 : decode cX9_ahead 2 = .ok (.putfield 1, 3) := by decide +kernel
theorem dX9_ahead_5 : decode cX9_ahead 5 = .ok (.aload_n 0, 1) := by decide +kernel
theorem dX9_ahead_6 : decode cX9_ahead 6 = .ok (.iload_n 1, 1) := by decide +kernel
theorem dX9_ahead_7 : decode cX9_ahead 7 = .ok (.invokevirtual 89, 3) := by decide +kernel
theorem dX9_ahead_10 : decode cX9_ahead 10 = .ok (.ifCond .eq 16, 3) := by decide +kernel
theorem dX9_ahead_13 : decode cX9_ahead 13 = .ok (.aload_n 0, 1) := by decide +kernel
theorem dX9_ahead_14 : decode cX9_ahead 14 = .ok (.iload_n 2, 1) := by decide +kernel
theorem dX9_ahead_15 : decode cX9_ahead 15 = .ok (.invokevirtual 89, 3) := by decide +kernel
theorem dX9_ahead_18 : decode cX9_ahead 18 = .ok (.ifCond .eq 8, 3) := by decide +kernel
theorem dX9_ahead_21 : decode cX9_ahead 21 = .ok (.iload_n 1, 1) := by decide +kernel
theorem dX9_ahead_22 : decode cX9_ahead 22 = .ok (.iload_n 2, 1) := by decide +kernel
theorem dX9_ahead_23 : decode cX9_ahead 23 = .ok (.if_icmp .ne 5, 3) := by decide +kernel
theorem dX9_ahead_26 : decode cX9_ahead 26 = .ok (.iconst (-1), 1) := by decide +kernel
theorem dX9_ahead_27 : decode cX9_ahead 27 = .ok (.ireturn, 1) := by decide +kernel
theorem dX9_ahead_28 : decode cX9_ahead 28 = .ok (.aload_n 0, 1) := by decide +kernel
theorem dX9_ahead_29 : decode cX9_ahead 29 = .ok (.iload_n 1, 1) := by decide +kernel
theorem dX9_ahead_30 : decode cX9_ahead 30 = .ok (.invokevirtual 99, 3) := by decide +kernel
theorem dX9_ahead_33 : decode cX9_ahead 33 = .ok (.ifCond .eq 11, 3) := by decide +kernel
theorem dX9_ahead_36 : decode cX9_ahead 36 = .ok (.aload_n 0, 1) := by decide +kernel
theorem dX9_ahead_37 : decode cX9_ahead 37 = .ok (.iload_n 2, 1) := by decide +kernel
theorem dX9_ahead_38 : decode cX9_ahead 38 = .ok (.invokevirtual 99, 3) := by decide +kernel
theorem dX9_ahead_41 : decode cX9_ahead 41 = .ok (.ifCond .ne 6, 3) := by decide +kernel
theorem dX9_ahead_44 : decode cX9_ahead 44 = .ok (.bipush (-2), 2) := by decide +kernel
theorem dX9_ahead_46 : decode cX9_ahead 46 = .ok (.ireturn, 1) := by decide +kernel
theorem dX9_ahead_47 : decode cX9_ahead 47 = .ok (.aload_n 0, 1) := by decide +kernel
theorem dX9_ahead_48 : decode cX9_ahead 48 = .ok (.iload_n 1, 1) := by decide +kernel
theorem dX9_ahead_49 : decode cX9_ahead 49 = .ok (.iload_n 2, 1) := by decide +kernel
theorem dX9_ahead_50 : decode cX9_ahead 50 = .ok (.iconst 1, 1) := by decide +kernel
theorem dX9_ahead_51 : decode cX9_ahead 51 = .ok (.invokevirtual 112, 3) := by decide +kernel
theorem dX9_ahead_54 : decode cX9_ahead 54 = .ok (.istore_n 3, 1) := by decide +kernel
theorem dX9_ahead_55 : decode cX9_ahead 55 = .ok (.aload_n 0, 1) := by decide +kernel
theorem dX9_ahead_56 : decode cX9_ahead 56 = .ok (.iconst 0, 1) := by decide +kernel
theorem dX9_ahead_57 : decode cX9_ahead 57 = .ok (.putfield 11, 3) := by decide +kernel
theorem dX9_ahead_60 : decode cX9_ahead 60 = .ok (.aload_n 0, 1) := by decide +kernel
theorem dX9_ahead_61 : decode cX9_ahead 61 = .ok (.aload_n 0, 1) := by decide +kernel
theorem dX9_ahead_62 : decode cX9_ahead 62 = .ok (.sipush 231, 3) := by decide +kernel
theorem dX9_ahead_65 : decode cX9_ahead 65 = .ok (.iload_n 1, 1) := by decide +kernel
theorem dX9_ahead_66 : decode cX9_ahead 66 = .ok (.iadd, 1) := by decide +kernel
theorem dX9_ahead_67 : decode cX9_ahead 67 = .ok (.invokevirtual 85, 3) := by decide +kernel
theorem dX9_ahead_70 : decode cX9_ahead 70 = .ok (.aload_n 0, 1) := by decide +kernel
theorem dX9_ahead_71 : decode cX9_ahead 71 = .ok (.sipush 231, 3) := by decide +kernel
theorem dX9_ahead_74 : decode cX9_ahead 74 = .ok (.iload_n 2, 1) := by decide +kernel
theorem dX9_ahead_75 : decode cX9_ahead 75 = .ok (.iadd, 1) := by decide +kernel
theorem dX9_ahead_76 : decode cX9_ahead 76 = .ok (.invokevirtual 85, 3) := by decide +kernel
theorem dX9_ahead_79 : decode cX9_ahead 79 = .ok (.invokestatic 120, 3) := by decide +kernel
theorem dX9_ahead_82 : decode cX9_ahead 82 = .ok (.i2l, 1) := by decide +kernel
theorem dX9_ahead_83 : decode cX9_ahead 83 = .ok (.invokevirtual 153, 3) := by decide +kernel
theorem dX9_ahead_86 : decode cX9_ahead 86 = .ok (.iload_n 3, 1) := by decide +kernel
theorem dX9_ahead_87 : decode cX9_ahead 87 = .ok (.ifCond .ne 7, 3) := by decide +kernel
theorem dX9_ahead_90 : decode cX9_ahead 90 = .ok (.iconst 1, 1) := by decide +kernel
theorem dX9_ahead_91 : decode cX9_ahead 91 = .ok (.goto 4, 3) := by decide +kernel
theorem dX9_ahead_94 : decode cX9_ahead 94 = .ok (.iconst 0, 1) := by decide +kernel
theorem dX9_ahead_95 : decode cX9_ahead 95 = .ok (.invokestatic 31, 3) := by decide +kernel
theorem dX9_ahead_98 : decode cX9_ahead 98 = .ok (.ireturn, 1) := by decide +kernel
theorem dX9_would_0 : decode cX9_would 0 = .ok (.aload_n 0, 1) := by decide +kernel
theorem dX9_would_1 : decode cX9_would 1 = .ok (.iconst 0, 1) := by decide +kernel
theorem dX9_would_2 : decode cX9_would 2 = .ok (.putfield 1, 3) := by decide +kernel
theorem dX9_would_5 : decode cX9_would 5 = .ok (.iload_n 1, 1) := by decide +kernel
theorem dX9_would_6 : decode cX9_would 6 = .ok (.invokestatic 195, 3) := by decide +kernel
theorem dX9_would_9 : decode cX9_would 9 = .ok (.ifCond .ne 5, 3) := by decide +kernel
theorem dX9_would_12 : decode cX9_would 12 = .ok (.iconst (-1), 1) := by decide +kernel
theorem dX9_would_13 : decode cX9_would 13 = .ok (.ireturn, 1) := by decide +kernel
theorem dX9_would_14 : decode cX9_would 14 = .ok (.aload_n 0, 1) := by decide +kernel
theorem dX9_would_15 : decode cX9_would 15 = .ok (.invokevirtual 246, 3) := by decide +kernel
theorem dX9_would_18 : decode cX9_would 18 = .ok (.aload_n 0, 1) := by decide +kernel
theorem dX9_would_19 : decode cX9_would 19 = .ok (.iload_n 1, 1) := by decide +kernel
theorem dX9_would_20 : decode cX9_would 20 = .ok (.invokevirtual 198, 3) := by decide +kernel
theorem dX9_would_23 : decode cX9_would 23 = .ok (.istore_n 2, 1) := by decide +kernel
theorem dX9_would_24 : decode cX9_would 24 = .ok (.iload_n 2, 1) := by decide +kernel
theorem dX9_would_25 : decode cX9_would 25 = .ok (.ifCond .lt 69, 3) := by decide +kernel
theorem dX9_would_28 : decode cX9_would 28 = .ok (.aload_n 0, 1) := by decide +kernel
theorem dX9_would_29 : decode cX9_would 29 = .ok (.iconst 0, 1) := by decide +kernel
theorem dX9_would_30 : decode cX9_would 30 = .ok (.putfield 11, 3) := by decide +kernel
theorem dX9_would_33 : decode cX9_would 33 = .ok (.iconst 0, 1) := by decide +kernel
theorem dX9_would_34 : decode cX9_would 34 = .ok (.istore_n 3, 1) := by decide +kernel
theorem dX9_would_35 : decode cX9_would 35 = .ok (.iload_n 3, 1) := by decide +kernel
theorem dX9_would_36 : decode cX9_would 36 = .ok (.aload_n 0, 1) := by decide +kernel
theorem dX9_would_37 : decode cX9_would 37 = .ok (.getfield 129, 3) := by decide +kernel
theorem dX9_would_40 : decode cX9_would 40 = .ok (.if_icmp .ge 54, 3) := by decide +kernel
theorem dX9_would_43 : decode cX9_would 43 = .ok (.aload_n 0, 1) := by decide +kernel
theorem dX9_would_44 : decode cX9_would 44 = .ok (.getfield 55, 3) := by decide +kernel
theorem dX9_would_47 : decode cX9_would 47 = .ok (.iload_n 3, 1) := by decide +kernel
theorem dX9_would_48 : decode cX9_would 48 = .ok (.iaload, 1) := by decide +kernel
theorem dX9_would_49 : decode cX9_would 49 = .ok (.istore 4, 2) := by decide +kernel
theorem dX9_would_51 : decode cX9_would 51 = .ok (.aload_n 0, 1) := by decide +kernel
theorem dX9_would_52 : decode cX9_would 52 = .ok (.iload 4, 2) := by decide +kernel
theorem dX9_would_54 : decode cX9_would 54 = .ok (.i2l, 1) := by decide +kernel
theorem dX9_would_55 : decode cX9_would 55 = .ok (.invokevirtual 153, 3) := by decide +kernel
theorem dX9_would_58 : decode cX9_would 58 = .ok (.aload_n 0, 1) := by decide +kernel
theorem dX9_would_59 : decode cX9_would 59 = .ok (.aload_n 0, 1) := by decide +kernel
theorem dX9_would_60 : decode cX9_would 60 = .ok (.iload 4, 2) := by decide +kernel
theorem dX9_would_62 : decode cX9_would 62 = .ok (.invokevirtual 89, 3) := by decide +kernel
theorem dX9_would_65 : decode cX9_would 65 = .ok (.ifCond .eq 17, 3) := by decide +kernel
theorem dX9_would_68 : decode cX9_would 68 = .ok (.aload_n 0, 1) := by decide +kernel
theorem dX9_would_69 : decode cX9_would 69 = .ok (.sipush 231, 3) := by decide +kernel
theorem dX9_would_72 : decode cX9_would 72 = .ok (.iload 4, 2) := by decide +kernel
theorem dX9_would_74 : decode cX9_would 74 = .ok (.iadd, 1) := by decide +kernel
theorem dX9_would_75 : decode cX9_would 75 = .ok (.invokevirtual 85, 3) := by decide +kernel
theorem dX9_would_78 : decode cX9_would 78 = .ok (.i2l, 1) := by decide +kernel
theorem dX9_would_79 : decode cX9_would 79 = .ok (.goto 6, 3) := by decide +kernel
theorem dX9_would_82 : decode cX9_would 82 = .ok (.ldc2_w 272, 3) := by decide +kernel
theorem dX9_would_85 : decode cX9_would 85 = .ok (.invokevirtual 153, 3) := by decide +kernel
theorem dX9_would_88 : decode cX9_would 88 = .ok (.iinc 3 1, 3) := by decide +kernel
theorem dX9_would_91 : decode cX9_would 91 = .ok (.goto (-56), 3) := by decide +kernel
theorem dX9_would_94 : decode cX9_would 94 = .ok (.aload_n 0, 1) := by decide +kernel
theorem dX9_would_95 : decode cX9_would 95 = .ok (.invokevirtual 249, 3) := by decide +kernel
theorem dX9_would_98 : decode cX9_would 98 = .ok (.iload_n 2, 1) := by decide +kernel
theorem dX9_would_99 : decode cX9_would 99 = .ok (.ireturn, 1) := by decide +kernel
theorem dX9_busiest_0 : decode cX9_busiest 0 = .ok (.aload_n 0, 1) := by decide +kernel
theorem dX9_busiest_1 : decode cX9_busiest 1 = .ok (.iconst 0, 1) := by decide +kernel
theorem dX9_busiest_2 : decode cX9_busiest 2 = .ok (.putfield 1, 3) := by decide +kernel
theorem dX9_busiest_5 : decode cX9_busiest 5 = .ok (.iload_n 1, 1) := by decide +kernel
theorem dX9_busiest_6 : decode cX9_busiest 6 = .ok (.i2l, 1) := by decide +kernel
theorem dX9_busiest_7 : decode cX9_busiest 7 = .ok (.lconst 1, 1) := by decide +kernel
theorem dX9_busiest_8 : decode cX9_busiest 8 = .ok (.ldc2_w 183, 3) := by decide +kernel
theorem dX9_busiest_11 : decode cX9_busiest 11 = .ok (.invokestatic 21, 3) := by decide +kernel
theorem dX9_busiest_14 : decode cX9_busiest 14 = .ok (.ifCond .ne 5, 3) := by decide +kernel
theorem dX9_busiest_17 : decode cX9_busiest 17 = .ok (.iconst (-1), 1) := by decide +kernel
theorem dX9_busiest_18 : decode cX9_busiest 18 = .ok (.ireturn, 1) := by decide +kernel
theorem dX9_busiest_19 : decode cX9_busiest 19 = .ok (.aload_n 0, 1) := by decide +kernel
theorem dX9_busiest_20 : decode cX9_busiest 20 = .ok (.bipush 6, 2) := by decide +kernel
theorem dX9_busiest_22 : decode cX9_busiest 22 = .ok (.invokevirtual 85, 3) := by decide +kernel
theorem dX9_busiest_25 : decode cX9_busiest 25 = .ok (.iload_n 1, 1) := by decide +kernel
theorem dX9_busiest_26 : decode cX9_busiest 26 = .ok (.iadd, 1) := by decide +kernel
theorem dX9_busiest_27 : decode cX9_busiest 27 = .ok (.ldc 157, 2) := by decide +kernel
theorem dX9_busiest_29 : decode cX9_busiest 29 = .ok (.if_icmp .le 6, 3) := by decide +kernel
theorem dX9_busiest_32 : decode cX9_busiest 32 = .ok (.bipush (-4), 2) := by decide +kernel
theorem dX9_busiest_34 : decode cX9_busiest 34 = .ok (.ireturn, 1) := by decide +kernel
theorem dX9_busiest_35 : decode cX9_busiest 35 = .ok (.aload_n 0, 1) := by decide +kernel
theorem dX9_busiest_36 : decode cX9_busiest 36 = .ok (.invokevirtual 246, 3) := by decide +kernel
theorem dX9_busiest_39 : decode cX9_busiest 39 = .ok (.aload_n 0, 1) := by decide +kernel
theorem dX9_busiest_40 : decode cX9_busiest 40 = .ok (.bipush 6, 2) := by decide +kernel
theorem dX9_busiest_42 : decode cX9_busiest 42 = .ok (.invokevirtual 85, 3) := by decide +kernel
theorem dX9_busiest_45 : decode cX9_busiest 45 = .ok (.istore_n 2, 1) := by decide +kernel
theorem dX9_busiest_46 : decode cX9_busiest 46 = .ok (.iconst 0, 1) := by decide +kernel
theorem dX9_busiest_47 : decode cX9_busiest 47 = .ok (.istore_n 3, 1) := by decide +kernel
theorem dX9_busiest_48 : decode cX9_busiest 48 = .ok (.iconst 0, 1) := by decide +kernel
theorem dX9_busiest_49 : decode cX9_busiest 49 = .ok (.istore 4, 2) := by decide +kernel
theorem dX9_busiest_51 : decode cX9_busiest 51 = .ok (.iconst 0, 1) := by decide +kernel
theorem dX9_busiest_52 : decode cX9_busiest 52 = .ok (.istore 5, 2) := by decide +kernel
theorem dX9_busiest_54 : decode cX9_busiest 54 = .ok (.iload 5, 2) := by decide +kernel
theorem dX9_busiest_56 : decode cX9_busiest 56 = .ok (.iload_n 1, 1) := by decide +kernel
theorem dX9_busiest_57 : decode cX9_busiest 57 = .ok (.if_icmp .ge 67, 3) := by decide +kernel
theorem dX9_busiest_60 : decode cX9_busiest 60 = .ok (.aload_n 0, 1) := by decide +kernel
theorem dX9_busiest_61 : decode cX9_busiest 61 = .ok (.iconst 1, 1) := by decide +kernel
theorem dX9_busiest_62 : decode cX9_busiest 62 = .ok (.invokevirtual 185, 3) := by decide +kernel
theorem dX9_busiest_65 : decode cX9_busiest 65 = .ok (.istore 6, 2) := by decide +kernel
theorem dX9_busiest_67 : decode cX9_busiest 67 = .ok (.iload 6, 2) := by decide +kernel
theorem dX9_busiest_69 : decode cX9_busiest 69 = .ok (.iload_n 3, 1) := by decide +kernel
theorem dX9_busiest_70 : decode cX9_busiest 70 = .ok (.if_icmp .le 7, 3) := by decide +kernel
theorem dX9_busiest_73 : decode cX9_busiest 73 = .ok (.iconst 1, 1) := by decide +kernel
theorem dX9_busiest_74 : decode cX9_busiest 74 = .ok (.goto 18, 3) := by decide +kernel
theorem dX9_busiest_77 : decode cX9_busiest 77 = .ok (.iload 6, 2) := by decide +kernel
theorem dX9_busiest_79 : decode cX9_busiest 79 = .ok (.iload_n 3, 1) := by decide +kernel
theorem dX9_busiest_80 : decode cX9_busiest 80 = .ok (.if_icmp .ne 10, 3) := by decide +kernel
theorem dX9_busiest_83 : decode cX9_busiest 83 = .ok (.iload 4, 2) := by decide +kernel
theorem dX9_busiest_85 : decode cX9_busiest 85 = .ok (.iconst 1, 1) := by decide +kernel
theorem dX9_busiest_86 : decode cX9_busiest 86 = .ok (.iadd, 1) := by decide +kernel
theorem dX9_busiest_87 : decode cX9_busiest 87 = .ok (.goto 5, 3) := by decide +kernel
theorem dX9_busiest_90 : decode cX9_busiest 90 = .ok (.iload 4, 2) := by decide +kernel
theorem dX9_busiest_92 : decode cX9_busiest 92 = .ok (.istore 4, 2) := by decide +kernel
theorem dX9_busiest_94 : decode cX9_busiest 94 = .ok (.iload 6, 2) := by decide +kernel
theorem dX9_busiest_96 : decode cX9_busiest 96 = .ok (.iload_n 3, 1) := by decide +kernel
theorem dX9_busiest_97 : decode cX9_busiest 97 = .ok (.if_icmp .le 12, 3) := by decide +kernel
theorem dX9_busiest_100 : decode cX9_busiest 100 = .ok (.aload_n 0, 1) := by decide +kernel
theorem dX9_busiest_101 : decode cX9_busiest 101 = .ok (.bipush 6, 2) := by decide +kernel
theorem dX9_busiest_103 : decode cX9_busiest 103 = .ok (.invokevirtual 85, 3) := by decide +kernel
theorem dX9_busiest_106 : decode cX9_busiest 106 = .ok (.goto 4, 3) := by decide +kernel
theorem dX9_busiest_109 : decode cX9_busiest 109 = .ok (.iload_n 2, 1) := by decide +kernel
theorem dX9_busiest_110 : decode cX9_busiest 110 = .ok (.istore_n 2, 1) := by decide +kernel
theorem dX9_busiest_111 : decode cX9_busiest 111 = .ok (.iload_n 3, 1) := by decide +kernel
theorem dX9_busiest_112 : decode cX9_busiest 112 = .ok (.iload 6, 2) := by decide +kernel
theorem dX9_busiest_114 : decode cX9_busiest 114 = .ok (.invokestatic 150, 3) := by decide +kernel
theorem dX9_busiest_117 : decode cX9_busiest 117 = .ok (.istore_n 3, 1) := by decide +kernel
theorem dX9_busiest_118 : decode cX9_busiest 118 = .ok (.iinc 5 1, 3) := by decide +kernel
theorem dX9_busiest_121 : decode cX9_busiest 121 = .ok (.goto (-67), 3) := by decide +kernel
theorem dX9_busiest_124 : decode cX9_busiest 124 = .ok (.aload_n 0, 1) := by decide +kernel
theorem dX9_busiest_125 : decode cX9_busiest 125 = .ok (.invokevirtual 249, 3) := by decide +kernel
theorem dX9_busiest_128 : decode cX9_busiest 128 = .ok (.aload_n 0, 1) := by decide +kernel
theorem dX9_busiest_129 : decode cX9_busiest 129 = .ok (.iconst 0, 1) := by decide +kernel
theorem dX9_busiest_130 : decode cX9_busiest 130 = .ok (.putfield 11, 3) := by decide +kernel
theorem dX9_busiest_133 : decode cX9_busiest 133 = .ok (.aload_n 0, 1) := by decide +kernel
theorem dX9_busiest_134 : decode cX9_busiest 134 = .ok (.iload_n 3, 1) := by decide +kernel
theorem dX9_busiest_135 : decode cX9_busiest 135 = .ok (.i2l, 1) := by decide +kernel
theorem dX9_busiest_136 : decode cX9_busiest 136 = .ok (.invokevirtual 153, 3) := by decide +kernel
theorem dX9_busiest_139 : decode cX9_busiest 139 = .ok (.aload_n 0, 1) := by decide +kernel
theorem dX9_busiest_140 : decode cX9_busiest 140 = .ok (.iload_n 3, 1) := by decide +kernel
theorem dX9_busiest_141 : decode cX9_busiest 141 = .ok (.ifCond .le 13, 3) := by decide +kernel
theorem dX9_busiest_144 : decode cX9_busiest 144 = .ok (.iload 4, 2) := by decide +kernel
theorem dX9_busiest_146 : decode cX9_busiest 146 = .ok (.iconst 1, 1) := by decide +kernel
theorem dX9_busiest_147 : decode cX9_busiest 147 = .ok (.if_icmp .le 7, 3) := by decide +kernel
theorem dX9_busiest_150 : decode cX9_busiest 150 = .ok (.iconst 1, 1) := by decide +kernel
theorem dX9_busiest_151 : decode cX9_busiest 151 = .ok (.goto 4, 3) := by decide +kernel
theorem dX9_busiest_154 : decode cX9_busiest 154 = .ok (.iconst 0, 1) := by decide +kernel
theorem dX9_busiest_155 : decode cX9_busiest 155 = .ok (.invokestatic 31, 3) := by decide +kernel
theorem dX9_busiest_158 : decode cX9_busiest 158 = .ok (.i2l, 1) := by decide +kernel
theorem dX9_busiest_159 : decode cX9_busiest 159 = .ok (.invokevirtual 153, 3) := by decide +kernel
theorem dX9_busiest_162 : decode cX9_busiest 162 = .ok (.iload_n 2, 1) := by decide +kernel
theorem dX9_busiest_163 : decode cX9_busiest 163 = .ok (.ireturn, 1) := by decide +kernel
theorem dX9_loudest_0 : decode cX9_loudest 0 = .ok (.aload_n 0, 1) := by decide +kernel
theorem dX9_loudest_1 : decode cX9_loudest 1 = .ok (.iconst 0, 1) := by decide +kernel
theorem dX9_loudest_2 : decode cX9_loudest 2 = .ok (.putfield 1, 3) := by decide +kernel
theorem dX9_loudest_5 : decode cX9_loudest 5 = .ok (.iload_n 1, 1) := by decide +kernel
theorem dX9_loudest_6 : decode cX9_loudest 6 = .ok (.i2l, 1) := by decide +kernel
theorem dX9_loudest_7 : decode cX9_loudest 7 = .ok (.lconst 1, 1) := by decide +kernel
theorem dX9_loudest_8 : decode cX9_loudest 8 = .ok (.ldc2_w 183, 3) := by decide +kernel
theorem dX9_loudest_11 : decode cX9_loudest 11 = .ok (.invokestatic 21, 3) := by decide +kernel
theorem dX9_loudest_14 : decode cX9_loudest 14 = .ok (.ifCond .ne 5, 3) := by decide +kernel
theorem dX9_loudest_17 : decode cX9_loudest 17 = .ok (.iconst (-1), 1) := by decide +kernel
theorem dX9_loudest_18 : decode cX9_loudest 18 = .ok (.ireturn, 1) := by decide +kernel
theorem dX9_loudest_19 : decode cX9_loudest 19 = .ok (.aload_n 0, 1) := by decide +kernel
theorem dX9_loudest_20 : decode cX9_loudest 20 = .ok (.bipush 6, 2) := by decide +kernel
theorem dX9_loudest_22 : decode cX9_loudest 22 = .ok (.invokevirtual 85, 3) := by decide +kernel
theorem dX9_loudest_25 : decode cX9_loudest 25 = .ok (.iload_n 1, 1) := by decide +kernel
theorem dX9_loudest_26 : decode cX9_loudest 26 = .ok (.iadd, 1) := by decide +kernel
theorem dX9_loudest_27 : decode cX9_loudest 27 = .ok (.ldc 157, 2) := by decide +kernel
theorem dX9_loudest_29 : decode cX9_loudest 29 = .ok (.if_icmp .le 6, 3) := by decide +kernel
theorem dX9_loudest_32 : decode cX9_loudest 32 = .ok (.bipush (-4), 2) := by decide +kernel
theorem dX9_loudest_34 : decode cX9_loudest 34 = .ok (.ireturn, 1) := by decide +kernel
theorem dX9_loudest_35 : decode cX9_loudest 35 = .ok (.iconst 0, 1) := by decide +kernel
theorem dX9_loudest_36 : decode cX9_loudest 36 = .ok (.istore_n 2, 1) := by decide +kernel
theorem dX9_loudest_37 : decode cX9_loudest 37 = .ok (.iload_n 2, 1) := by decide +kernel
theorem dX9_loudest_38 : decode cX9_loudest 38 = .ok (.bipush 8, 2) := by decide +kernel
theorem dX9_loudest_40 : decode cX9_loudest 40 = .ok (.if_icmp .ge 16, 3) := by decide +kernel
theorem dX9_loudest_43 : decode cX9_loudest 43 = .ok (.aload_n 0, 1) := by decide +kernel
theorem dX9_loudest_44 : decode cX9_loudest 44 = .ok (.getfield 73, 3) := by decide +kernel
theorem dX9_loudest_47 : decode cX9_loudest 47 = .ok (.iload_n 2, 1) := by decide +kernel
theorem dX9_loudest_48 : decode cX9_loudest 48 = .ok (.iconst 0, 1) := by decide +kernel
theorem dX9_loudest_49 : decode cX9_loudest 49 = .ok (.iastore, 1) := by decide +kernel
theorem dX9_loudest_50 : decode cX9_loudest 50 = .ok (.iinc 2 1, 3) := by decide +kernel
theorem dX9_loudest_53 : decode cX9_loudest 53 = .ok (.goto (-16), 3) := by decide +kernel
theorem dX9_loudest_56 : decode cX9_loudest 56 = .ok (.aload_n 0, 1) := by decide +kernel
theorem dX9_loudest_57 : decode cX9_loudest 57 = .ok (.invokevirtual 246, 3) := by decide +kernel
theorem dX9_loudest_60 : decode cX9_loudest 60 = .ok (.iconst 0, 1) := by decide +kernel
theorem dX9_loudest_61 : decode cX9_loudest 61 = .ok (.istore_n 2, 1) := by decide +kernel
theorem dX9_loudest_62 : decode cX9_loudest 62 = .ok (.iload_n 2, 1) := by decide +kernel
theorem dX9_loudest_63 : decode cX9_loudest 63 = .ok (.iload_n 1, 1) := by decide +kernel
theorem dX9_loudest_64 : decode cX9_loudest 64 = .ok (.if_icmp .ge 54, 3) := by decide +kernel
theorem dX9_loudest_67 : decode cX9_loudest 67 = .ok (.aload_n 0, 1) := by decide +kernel
theorem dX9_loudest_68 : decode cX9_loudest 68 = .ok (.iconst 1, 1) := by decide +kernel
theorem dX9_loudest_69 : decode cX9_loudest 69 = .ok (.invokevirtual 185, 3) := by decide +kernel
theorem dX9_loudest_72 : decode cX9_loudest 72 = .ok (.istore_n 3, 1) := by decide +kernel
theorem dX9_loudest_73 : decode cX9_loudest 73 = .ok (.iconst 0, 1) := by decide +kernel
theorem dX9_loudest_74 : decode cX9_loudest 74 = .ok (.istore 4, 2) := by decide +kernel
theorem dX9_loudest_76 : decode cX9_loudest 76 = .ok (.iload 4, 2) := by decide +kernel
theorem dX9_loudest_78 : decode cX9_loudest 78 = .ok (.iload_n 3, 1) := by decide +kernel
theorem dX9_loudest_79 : decode cX9_loudest 79 = .ok (.if_icmp .ge 33, 3) := by decide +kernel
theorem dX9_loudest_82 : decode cX9_loudest 82 = .ok (.aload_n 0, 1) := by decide +kernel
theorem dX9_loudest_83 : decode cX9_loudest 83 = .ok (.getfield 73, 3) := by decide +kernel
theorem dX9_loudest_86 : decode cX9_loudest 86 = .ok (.aload_n 0, 1) := by decide +kernel
theorem dX9_loudest_87 : decode cX9_loudest 87 = .ok (.sipush 263, 3) := by decide +kernel
theorem dX9_loudest_90 : decode cX9_loudest 90 = .ok (.aload_n 0, 1) := by decide +kernel
theorem dX9_loudest_91 : decode cX9_loudest 91 = .ok (.getfield 55, 3) := by decide +kernel
theorem dX9_loudest_94 : decode cX9_loudest 94 = .ok (.iload 4, 2) := by decide +kernel
theorem dX9_loudest_96 : decode cX9_loudest 96 = .ok (.iaload, 1) := by decide +kernel
theorem dX9_loudest_97 : decode cX9_loudest 97 = .ok (.iadd, 1) := by decide +kernel
theorem dX9_loudest_98 : decode cX9_loudest 98 = .ok (.invokevirtual 85, 3) := by decide +kernel
theorem dX9_loudest_101 : decode cX9_loudest 101 = .ok (.dup2, 1) := by decide +kernel
theorem dX9_loudest_102 : decode cX9_loudest 102 = .ok (.iaload, 1) := by decide +kernel
theorem dX9_loudest_103 : decode cX9_loudest 103 = .ok (.iconst 1, 1) := by decide +kernel
theorem dX9_loudest_104 : decode cX9_loudest 104 = .ok (.iadd, 1) := by decide +kernel
theorem dX9_loudest_105 : decode cX9_loudest 105 = .ok (.iastore, 1) := by decide +kernel
theorem dX9_loudest_106 : decode cX9_loudest 106 = .ok (.iinc 4 1, 3) := by decide +kernel
theorem dX9_loudest_109 : decode cX9_loudest 109 = .ok (.goto (-33), 3) := by decide +kernel
theorem dX9_loudest_112 : decode cX9_loudest 112 = .ok (.iinc 2 1, 3) := by decide +kernel
theorem dX9_loudest_115 : decode cX9_loudest 115 = .ok (.goto (-53), 3) := by decide +kernel
theorem dX9_loudest_118 : decode cX9_loudest 118 = .ok (.aload_n 0, 1) := by decide +kernel
theorem dX9_loudest_119 : decode cX9_loudest 119 = .ok (.invokevirtual 249, 3) := by decide +kernel
theorem dX9_loudest_122 : decode cX9_loudest 122 = .ok (.iconst 0, 1) := by decide +kernel
theorem dX9_loudest_123 : decode cX9_loudest 123 = .ok (.istore_n 2, 1) := by decide +kernel
theorem dX9_loudest_124 : decode cX9_loudest 124 = .ok (.iconst 1, 1) := by decide +kernel
theorem dX9_loudest_125 : decode cX9_loudest 125 = .ok (.istore_n 3, 1) := by decide +kernel
theorem dX9_loudest_126 : decode cX9_loudest 126 = .ok (.iload_n 3, 1) := by decide +kernel
theorem dX9_loudest_127 : decode cX9_loudest 127 = .ok (.bipush 8, 2) := by decide +kernel
theorem dX9_loudest_129 : decode cX9_loudest 129 = .ok (.if_icmp .ge 30, 3) := by decide +kernel
theorem dX9_loudest_132 : decode cX9_loudest 132 = .ok (.aload_n 0, 1) := by decide +kernel
theorem dX9_loudest_133 : decode cX9_loudest 133 = .ok (.getfield 73, 3) := by decide +kernel
theorem dX9_loudest_136 : decode cX9_loudest 136 = .ok (.iload_n 3, 1) := by decide +kernel
theorem dX9_loudest_137 : decode cX9_loudest 137 = .ok (.iaload, 1) := by decide +kernel
theorem dX9_loudest_138 : decode cX9_loudest 138 = .ok (.aload_n 0, 1) := by decide +kernel
theorem dX9_loudest_139 : decode cX9_loudest 139 = .ok (.getfield 73, 3) := by decide +kernel
theorem dX9_loudest_142 : decode cX9_loudest 142 = .ok (.iload_n 2, 1) := by decide +kernel
theorem dX9_loudest_143 : decode cX9_loudest 143 = .ok (.iaload, 1) := by decide +kernel
theorem dX9_loudest_144 : decode cX9_loudest 144 = .ok (.if_icmp .le 7, 3) := by decide +kernel
theorem dX9_loudest_147 : decode cX9_loudest 147 = .ok (.iload_n 3, 1) := by decide +kernel
theorem dX9_loudest_148 : decode cX9_loudest 148 = .ok (.goto 4, 3) := by decide +kernel
theorem dX9_loudest_151 : decode cX9_loudest 151 = .ok (.iload_n 2, 1) := by decide +kernel
theorem dX9_loudest_152 : decode cX9_loudest 152 = .ok (.istore_n 2, 1) := by decide +kernel
theorem dX9_loudest_153 : decode cX9_loudest 153 = .ok (.iinc 3 1, 3) := by decide +kernel
theorem dX9_loudest_156 : decode cX9_loudest 156 = .ok (.goto (-30), 3) := by decide +kernel
theorem dX9_loudest_159 : decode cX9_loudest 159 = .ok (.aload_n 0, 1) := by decide +kernel
theorem dX9_loudest_160 : decode cX9_loudest 160 = .ok (.getfield 73, 3) := by decide +kernel
theorem dX9_loudest_163 : decode cX9_loudest 163 = .ok (.iload_n 2, 1) := by decide +kernel
theorem dX9_loudest_164 : decode cX9_loudest 164 = .ok (.iaload, 1) := by decide +kernel
theorem dX9_loudest_165 : decode cX9_loudest 165 = .ok (.ifCond .ne 6, 3) := by decide +kernel
theorem dX9_loudest_168 : decode cX9_loudest 168 = .ok (.bipush (-2), 2) := by decide +kernel
theorem dX9_loudest_170 : decode cX9_loudest 170 = .ok (.ireturn, 1) := by decide +kernel
theorem dX9_loudest_171 : decode cX9_loudest 171 = .ok (.aload_n 0, 1) := by decide +kernel
theorem dX9_loudest_172 : decode cX9_loudest 172 = .ok (.iconst 0, 1) := by decide +kernel
theorem dX9_loudest_173 : decode cX9_loudest 173 = .ok (.putfield 11, 3) := by decide +kernel
theorem dX9_loudest_176 : decode cX9_loudest 176 = .ok (.iconst 0, 1) := by decide +kernel
theorem dX9_loudest_177 : decode cX9_loudest 177 = .ok (.istore_n 3, 1) := by decide +kernel
theorem dX9_loudest_178 : decode cX9_loudest 178 = .ok (.iload_n 3, 1) := by decide +kernel
theorem dX9_loudest_179 : decode cX9_loudest 179 = .ok (.bipush 8, 2) := by decide +kernel
theorem dX9_loudest_181 : decode cX9_loudest 181 = .ok (.if_icmp .ge 20, 3) := by decide +kernel
theorem dX9_loudest_184 : decode cX9_loudest 184 = .ok (.aload_n 0, 1) := by decide +kernel
theorem dX9_loudest_185 : decode cX9_loudest 185 = .ok (.aload_n 0, 1) := by decide +kernel
theorem dX9_loudest_186 : decode cX9_loudest 186 = .ok (.getfield 73, 3) := by decide +kernel
theorem dX9_loudest_189 : decode cX9_loudest 189 = .ok (.iload_n 3, 1) := by decide +kernel
theorem dX9_loudest_190 : decode cX9_loudest 190 = .ok (.iaload, 1) := by decide +kernel
theorem dX9_loudest_191 : decode cX9_loudest 191 = .ok (.i2l, 1) := by decide +kernel
theorem dX9_loudest_192 : decode cX9_loudest 192 = .ok (.invokevirtual 153, 3) := by decide +kernel
theorem dX9_loudest_195 : decode cX9_loudest 195 = .ok (.iinc 3 1, 3) := by decide +kernel
theorem dX9_loudest_198 : decode cX9_loudest 198 = .ok (.goto (-20), 3) := by decide +kernel
theorem dX9_loudest_201 : decode cX9_loudest 201 = .ok (.iload_n 2, 1) := by decide +kernel
theorem dX9_loudest_202 : decode cX9_loudest 202 = .ok (.ireturn, 1) := by decide +kernel
theorem dX9_clashes_0 : decode cX9_clashes 0 = .ok (.aload_n 0, 1) := by decide +kernel
theorem dX9_clashes_1 : decode cX9_clashes 1 = .ok (.iconst 0, 1) := by decide +kernel
theorem dX9_clashes_2 : decode cX9_clashes 2 = .ok (.putfield 1, 3) := by decide +kernel
theorem dX9_clashes_5 : decode cX9_clashes 5 = .ok (.iload_n 1, 1) := by decide +kernel
theorem dX9_clashes_6 : decode cX9_clashes 6 = .ok (.i2l, 1) := by decide +kernel
theorem dX9_clashes_7 : decode cX9_clashes 7 = .ok (.lconst 1, 1) := by decide +kernel
theorem dX9_clashes_8 : decode cX9_clashes 8 = .ok (.ldc2_w 183, 3) := by decide +kernel
theorem dX9_clashes_11 : decode cX9_clashes 11 = .ok (.invokestatic 21, 3) := by decide +kernel
theorem dX9_clashes_14 : decode cX9_clashes 14 = .ok (.ifCond .ne 5, 3) := by decide +kernel
theorem dX9_clashes_17 : decode cX9_clashes 17 = .ok (.iconst (-1), 1) := by decide +kernel
theorem dX9_clashes_18 : decode cX9_clashes 18 = .ok (.ireturn, 1) := by decide +kernel
theorem dX9_clashes_19 : decode cX9_clashes 19 = .ok (.aload_n 0, 1) := by decide +kernel
theorem dX9_clashes_20 : decode cX9_clashes 20 = .ok (.bipush 6, 2) := by decide +kernel
theorem dX9_clashes_22 : decode cX9_clashes 22 = .ok (.invokevirtual 85, 3) := by decide +kernel
theorem dX9_clashes_25 : decode cX9_clashes 25 = .ok (.iload_n 1, 1) := by decide +kernel
theorem dX9_clashes_26 : decode cX9_clashes 26 = .ok (.iadd, 1) := by decide +kernel
theorem dX9_clashes_27 : decode cX9_clashes 27 = .ok (.ldc 157, 2) := by decide +kernel
theorem dX9_clashes_29 : decode cX9_clashes 29 = .ok (.if_icmp .le 6, 3) := by decide +kernel
theorem dX9_clashes_32 : decode cX9_clashes 32 = .ok (.bipush (-4), 2) := by decide +kernel
theorem dX9_clashes_34 : decode cX9_clashes 34 = .ok (.ireturn, 1) := by decide +kernel
theorem dX9_clashes_35 : decode cX9_clashes 35 = .ok (.aload_n 0, 1) := by decide +kernel
theorem dX9_clashes_36 : decode cX9_clashes 36 = .ok (.invokevirtual 246, 3) := by decide +kernel
theorem dX9_clashes_39 : decode cX9_clashes 39 = .ok (.iconst 0, 1) := by decide +kernel
theorem dX9_clashes_40 : decode cX9_clashes 40 = .ok (.istore_n 2, 1) := by decide +kernel
theorem dX9_clashes_41 : decode cX9_clashes 41 = .ok (.iconst (-1), 1) := by decide +kernel
theorem dX9_clashes_42 : decode cX9_clashes 42 = .ok (.istore_n 3, 1) := by decide +kernel
theorem dX9_clashes_43 : decode cX9_clashes 43 = .ok (.iconst (-1), 1) := by decide +kernel
theorem dX9_clashes_44 : decode cX9_clashes 44 = .ok (.istore 4, 2) := by decide +kernel
theorem dX9_clashes_46 : decode cX9_clashes 46 = .ok (.iconst (-1), 1) := by decide +kernel
theorem dX9_clashes_47 : decode cX9_clashes 47 = .ok (.istore 5, 2) := by decide +kernel
theorem dX9_clashes_49 : decode cX9_clashes 49 = .ok (.iconst 0, 1) := by decide +kernel
theorem dX9_clashes_50 : decode cX9_clashes 50 = .ok (.istore 6, 2) := by decide +kernel
theorem dX9_clashes_52 : decode cX9_clashes 52 = .ok (.iload 6, 2) := by decide +kernel
theorem dX9_clashes_54 : decode cX9_clashes 54 = .ok (.iload_n 1, 1) := by decide +kernel
theorem dX9_clashes_55 : decode cX9_clashes 55 = .ok (.if_icmp .ge 66, 3) := by decide +kernel
theorem dX9_clashes_58 : decode cX9_clashes 58 = .ok (.aload_n 0, 1) := by decide +kernel
theorem dX9_clashes_59 : decode cX9_clashes 59 = .ok (.iconst 1, 1) := by decide +kernel
theorem dX9_clashes_60 : decode cX9_clashes 60 = .ok (.invokevirtual 185, 3) := by decide +kernel
theorem dX9_clashes_63 : decode cX9_clashes 63 = .ok (.istore 7, 2) := by decide +kernel
theorem dX9_clashes_65 : decode cX9_clashes 65 = .ok (.iload 7, 2) := by decide +kernel
theorem dX9_clashes_67 : decode cX9_clashes 67 = .ok (.iconst 1, 1) := by decide +kernel
theorem dX9_clashes_68 : decode cX9_clashes 68 = .ok (.if_icmp .le 30, 3) := by decide +kernel
theorem dX9_clashes_71 : decode cX9_clashes 71 = .ok (.iload_n 2, 1) := by decide +kernel
theorem dX9_clashes_72 : decode cX9_clashes 72 = .ok (.ifCond .ne 26, 3) := by decide +kernel
theorem dX9_clashes_75 : decode cX9_clashes 75 = .ok (.aload_n 0, 1) := by decide +kernel
theorem dX9_clashes_76 : decode cX9_clashes 76 = .ok (.bipush 6, 2) := by decide +kernel
theorem dX9_clashes_78 : decode cX9_clashes 78 = .ok (.invokevirtual 85, 3) := by decide +kernel
theorem dX9_clashes_81 : decode cX9_clashes 81 = .ok (.istore_n 3, 1) := by decide +kernel
theorem dX9_clashes_82 : decode cX9_clashes 82 = .ok (.aload_n 0, 1) := by decide +kernel
theorem dX9_clashes_83 : decode cX9_clashes 83 = .ok (.getfield 55, 3) := by decide +kernel
theorem dX9_clashes_86 : decode cX9_clashes 86 = .ok (.iconst 0, 1) := by decide +kernel
theorem dX9_clashes_87 : decode cX9_clashes 87 = .ok (.iaload, 1) := by decide +kernel
theorem dX9_clashes_88 : decode cX9_clashes 88 = .ok (.istore 4, 2) := by decide +kernel
theorem dX9_clashes_90 : decode cX9_clashes 90 = .ok (.aload_n 0, 1) := by decide +kernel
theorem dX9_clashes_91 : decode cX9_clashes 91 = .ok (.getfield 55, 3) := by decide +kernel
theorem dX9_clashes_94 : decode cX9_clashes 94 = .ok (.iconst 1, 1) := by decide +kernel
theorem dX9_clashes_95 : decode cX9_clashes 95 = .ok (.iaload, 1) := by decide +kernel
theorem dX9_clashes_96 : decode cX9_clashes 96 = .ok (.istore 5, 2) := by decide +kernel
theorem dX9_clashes_98 : decode cX9_clashes 98 = .ok (.iload_n 2, 1) := by decide +kernel
theorem dX9_clashes_99 : decode cX9_clashes 99 = .ok (.iload 7, 2) := by decide +kernel
theorem dX9_clashes_101 : decode cX9_clashes 101 = .ok (.iconst 1, 1) := by decide +kernel
theorem dX9_clashes_102 : decode cX9_clashes 102 = .ok (.if_icmp .le 7, 3) := by decide +kernel
theorem dX9_clashes_105 : decode cX9_clashes 105 = .ok (.iconst 1, 1) := by decide +kernel
theorem dX9_clashes_106 : decode cX9_clashes 106 = .ok (.goto 4, 3) := by decide +kernel
theorem dX9_clashes_109 : decode cX9_clashes 109 = .ok (.iconst 0, 1) := by decide +kernel
theorem dX9_clashes_110 : decode cX9_clashes 110 = .ok (.invokestatic 31, 3) := by decide +kernel
theorem dX9_clashes_113 : decode cX9_clashes 113 = .ok (.iadd, 1) := by decide +kernel
theorem dX9_clashes_114 : decode cX9_clashes 114 = .ok (.istore_n 2, 1) := by decide +kernel
theorem dX9_clashes_115 : decode cX9_clashes 115 = .ok (.iinc 6 1, 3) := by decide +kernel
theorem dX9_clashes_118 : decode cX9_clashes 118 = .ok (.goto (-66), 3) := by decide +kernel
theorem dX9_clashes_121 : decode cX9_clashes 121 = .ok (.aload_n 0, 1) := by decide +kernel
theorem dX9_clashes_122 : decode cX9_clashes 122 = .ok (.invokevirtual 249, 3) := by decide +kernel
theorem dX9_clashes_125 : decode cX9_clashes 125 = .ok (.aload_n 0, 1) := by decide +kernel
theorem dX9_clashes_126 : decode cX9_clashes 126 = .ok (.iconst 0, 1) := by decide +kernel
theorem dX9_clashes_127 : decode cX9_clashes 127 = .ok (.putfield 11, 3) := by decide +kernel
theorem dX9_clashes_130 : decode cX9_clashes 130 = .ok (.aload_n 0, 1) := by decide +kernel
theorem dX9_clashes_131 : decode cX9_clashes 131 = .ok (.iload_n 3, 1) := by decide +kernel
theorem dX9_clashes_132 : decode cX9_clashes 132 = .ok (.i2l, 1) := by decide +kernel
theorem dX9_clashes_133 : decode cX9_clashes 133 = .ok (.invokevirtual 153, 3) := by decide +kernel
theorem dX9_clashes_136 : decode cX9_clashes 136 = .ok (.aload_n 0, 1) := by decide +kernel
theorem dX9_clashes_137 : decode cX9_clashes 137 = .ok (.iload 4, 2) := by decide +kernel
theorem dX9_clashes_139 : decode cX9_clashes 139 = .ok (.i2l, 1) := by decide +kernel
theorem dX9_clashes_140 : decode cX9_clashes 140 = .ok (.invokevirtual 153, 3) := by decide +kernel
theorem dX9_clashes_143 : decode cX9_clashes 143 = .ok (.aload_n 0, 1) := by decide +kernel
theorem dX9_clashes_144 : decode cX9_clashes 144 = .ok (.iload 5, 2) := by decide +kernel
theorem dX9_clashes_146 : decode cX9_clashes 146 = .ok (.i2l, 1) := by decide +kernel
theorem dX9_clashes_147 : decode cX9_clashes 147 = .ok (.invokevirtual 153, 3) := by decide +kernel
theorem dX9_clashes_150 : decode cX9_clashes 150 = .ok (.iload_n 2, 1) := by decide +kernel
theorem dX9_clashes_151 : decode cX9_clashes 151 = .ok (.ireturn, 1) := by decide +kernel
theorem dX9_till_0 : decode cX9_till 0 = .ok (.aload_n 0, 1) := by decide +kernel
theorem dX9_till_1 : decode cX9_till 1 = .ok (.iconst 0, 1) := by decide +kernel
theorem dX9_till_2 : decode cX9_till 2 = .ok (.putfield 1, 3) := by decide +kernel
theorem dX9_till_5 : decode cX9_till 5 = .ok (.iload_n 1, 1) := by decide +kernel
theorem dX9_till_6 : decode cX9_till 6 = .ok (.i2l, 1) := by decide +kernel
theorem dX9_till_7 : decode cX9_till 7 = .ok (.lconst 1, 1) := by decide +kernel
theorem dX9_till_8 : decode cX9_till 8 = .ok (.ldc2_w 183, 3) := by decide +kernel
theorem dX9_till_11 : decode cX9_till 11 = .ok (.invokestatic 21, 3) := by decide +kernel
theorem dX9_till_14 : decode cX9_till 14 = .ok (.ifCond .ne 5, 3) := by decide +kernel
theorem dX9_till_17 : decode cX9_till 17 = .ok (.iconst (-1), 1) := by decide +kernel
theorem dX9_till_18 : decode cX9_till 18 = .ok (.ireturn, 1) := by decide +kernel
theorem dX9_till_19 : decode cX9_till 19 = .ok (.aload_n 0, 1) := by decide +kernel
theorem dX9_till_20 : decode cX9_till 20 = .ok (.bipush 6, 2) := by decide +kernel
theorem dX9_till_22 : decode cX9_till 22 = .ok (.invokevirtual 85, 3) := by decide +kernel
theorem dX9_till_25 : decode cX9_till 25 = .ok (.bipush 100, 2) := by decide +kernel
theorem dX9_till_27 : decode cX9_till 27 = .ok (.iadd, 1) := by decide +kernel
theorem dX9_till_28 : decode cX9_till 28 = .ok (.ldc 157, 2) := by decide +kernel
theorem dX9_till_30 : decode cX9_till 30 = .ok (.if_icmp .le 6, 3) := by decide +kernel
theorem dX9_till_33 : decode cX9_till 33 = .ok (.bipush (-4), 2) := by decide +kernel
theorem dX9_till_35 : decode cX9_till 35 = .ok (.ireturn, 1) := by decide +kernel
theorem dX9_till_36 : decode cX9_till 36 = .ok (.aload_n 0, 1) := by decide +kernel
theorem dX9_till_37 : decode cX9_till 37 = .ok (.invokevirtual 246, 3) := by decide +kernel
theorem dX9_till_40 : decode cX9_till 40 = .ok (.aload_n 0, 1) := by decide +kernel
theorem dX9_till_41 : decode cX9_till 41 = .ok (.bipush 8, 2) := by decide +kernel
theorem dX9_till_43 : decode cX9_till 43 = .ok (.invokevirtual 85, 3) := by decide +kernel
theorem dX9_till_46 : decode cX9_till 46 = .ok (.istore_n 2, 1) := by decide +kernel
theorem dX9_till_47 : decode cX9_till 47 = .ok (.iconst 0, 1) := by decide +kernel
theorem dX9_till_48 : decode cX9_till 48 = .ok (.istore_n 3, 1) := by decide +kernel
theorem dX9_till_49 : decode cX9_till 49 = .ok (.bipush (-2), 2) := by decide +kernel
theorem dX9_till_51 : decode cX9_till 51 = .ok (.istore 4, 2) := by decide +kernel
theorem dX9_till_53 : decode cX9_till 53 = .ok (.iconst 0, 1) := by decide +kernel
theorem dX9_till_54 : decode cX9_till 54 = .ok (.istore 5, 2) := by decide +kernel
theorem dX9_till_56 : decode cX9_till 56 = .ok (.iload 5, 2) := by decide +kernel
theorem dX9_till_58 : decode cX9_till 58 = .ok (.bipush 100, 2) := by decide +kernel
theorem dX9_till_60 : decode cX9_till 60 = .ok (.if_icmp .ge 40, 3) := by decide +kernel
theorem dX9_till_63 : decode cX9_till 63 = .ok (.iload_n 3, 1) := by decide +kernel
theorem dX9_till_64 : decode cX9_till 64 = .ok (.iload_n 1, 1) := by decide +kernel
theorem dX9_till_65 : decode cX9_till 65 = .ok (.if_icmp .ge 35, 3) := by decide +kernel
theorem dX9_till_68 : decode cX9_till 68 = .ok (.iload_n 3, 1) := by decide +kernel
theorem dX9_till_69 : decode cX9_till 69 = .ok (.aload_n 0, 1) := by decide +kernel
theorem dX9_till_70 : decode cX9_till 70 = .ok (.iconst 1, 1) := by decide +kernel
theorem dX9_till_71 : decode cX9_till 71 = .ok (.invokevirtual 185, 3) := by decide +kernel
theorem dX9_till_74 : decode cX9_till 74 = .ok (.iadd, 1) := by decide +kernel
theorem dX9_till_75 : decode cX9_till 75 = .ok (.istore_n 3, 1) := by decide +kernel
theorem dX9_till_76 : decode cX9_till 76 = .ok (.iload_n 3, 1) := by decide +kernel
theorem dX9_till_77 : decode cX9_till 77 = .ok (.iload_n 1, 1) := by decide +kernel
theorem dX9_till_78 : decode cX9_till 78 = .ok (.if_icmp .lt 12, 3) := by decide +kernel
theorem dX9_till_81 : decode cX9_till 81 = .ok (.aload_n 0, 1) := by decide +kernel
theorem dX9_till_82 : decode cX9_till 82 = .ok (.bipush 6, 2) := by decide +kernel
theorem dX9_till_84 : decode cX9_till 84 = .ok (.invokevirtual 85, 3) := by decide +kernel
theorem dX9_till_87 : decode cX9_till 87 = .ok (.goto 5, 3) := by decide +kernel
theorem dX9_till_90 : decode cX9_till 90 = .ok (.bipush (-2), 2) := by decide +kernel
theorem dX9_till_92 : decode cX9_till 92 = .ok (.istore 4, 2) := by decide +kernel
theorem dX9_till_94 : decode cX9_till 94 = .ok (.iinc 5 1, 3) := by decide +kernel
theorem dX9_till_97 : decode cX9_till 97 = .ok (.goto (-41), 3) := by decide +kernel
theorem dX9_till_100 : decode cX9_till 100 = .ok (.aload_n 0, 1) := by decide +kernel
theorem dX9_till_101 : decode cX9_till 101 = .ok (.bipush 8, 2) := by decide +kernel
theorem dX9_till_103 : decode cX9_till 103 = .ok (.invokevirtual 85, 3) := by decide +kernel
theorem dX9_till_106 : decode cX9_till 106 = .ok (.iload_n 2, 1) := by decide +kernel
theorem dX9_till_107 : decode cX9_till 107 = .ok (.isub, 1) := by decide +kernel
theorem dX9_till_108 : decode cX9_till 108 = .ok (.istore_n 2, 1) := by decide +kernel
theorem dX9_till_109 : decode cX9_till 109 = .ok (.aload_n 0, 1) := by decide +kernel
theorem dX9_till_110 : decode cX9_till 110 = .ok (.invokevirtual 249, 3) := by decide +kernel
theorem dX9_till_113 : decode cX9_till 113 = .ok (.iload 4, 2) := by decide +kernel
theorem dX9_till_115 : decode cX9_till 115 = .ok (.ifCond .lt 20, 3) := by decide +kernel
theorem dX9_till_118 : decode cX9_till 118 = .ok (.aload_n 0, 1) := by decide +kernel
theorem dX9_till_119 : decode cX9_till 119 = .ok (.iconst 0, 1) := by decide +kernel
theorem dX9_till_120 : decode cX9_till 120 = .ok (.putfield 11, 3) := by decide +kernel
theorem dX9_till_123 : decode cX9_till 123 = .ok (.aload_n 0, 1) := by decide +kernel
theorem dX9_till_124 : decode cX9_till 124 = .ok (.iload_n 3, 1) := by decide +kernel
theorem dX9_till_125 : decode cX9_till 125 = .ok (.i2l, 1) := by decide +kernel
theorem dX9_till_126 : decode cX9_till 126 = .ok (.invokevirtual 153, 3) := by decide +kernel
theorem dX9_till_129 : decode cX9_till 129 = .ok (.aload_n 0, 1) := by decide +kernel
theorem dX9_till_130 : decode cX9_till 130 = .ok (.iload_n 2, 1) := by decide +kernel
theorem dX9_till_131 : decode cX9_till 131 = .ok (.i2l, 1) := by decide +kernel
theorem dX9_till_132 : decode cX9_till 132 = .ok (.invokevirtual 153, 3) := by decide +kernel
theorem dX9_till_135 : decode cX9_till 135 = .ok (.iload 4, 2) := by decide +kernel
theorem dX9_till_137 : decode cX9_till 137 = .ok (.ireturn, 1) := by decide +kernel
theorem dX9_rung_0 : decode cX9_rung 0 = .ok (.aload_n 0, 1) := by decide +kernel
theorem dX9_rung_1 : decode cX9_rung 1 = .ok (.iconst 0, 1) := by decide +kernel
theorem dX9_rung_2 : decode cX9_rung 2 = .ok (.putfield 1, 3) := by decide +kernel
theorem dX9_rung_5 : decode cX9_rung 5 = .ok (.iload_n 1, 1) := by decide +kernel
theorem dX9_rung_6 : decode cX9_rung 6 = .ok (.i2l, 1) := by decide +kernel
theorem dX9_rung_7 : decode cX9_rung 7 = .ok (.lconst 0, 1) := by decide +kernel
theorem dX9_rung_8 : decode cX9_rung 8 = .ok (.aload_n 0, 1) := by decide +kernel
theorem dX9_rung_9 : decode cX9_rung 9 = .ok (.bipush 14, 2) := by decide +kernel
theorem dX9_rung_11 : decode cX9_rung 11 = .ok (.invokevirtual 85, 3) := by decide +kernel
theorem dX9_rung_14 : decode cX9_rung 14 = .ok (.iconst 1, 1) := by decide +kernel
theorem dX9_rung_15 : decode cX9_rung 15 = .ok (.isub, 1) := by decide +kernel
theorem dX9_rung_16 : decode cX9_rung 16 = .ok (.i2l, 1) := by decide +kernel
theorem dX9_rung_17 : decode cX9_rung 17 = .ok (.invokestatic 21, 3) := by decide +kernel
theorem dX9_rung_20 : decode cX9_rung 20 = .ok (.ifCond .ne 5, 3) := by decide +kernel
theorem dX9_rung_23 : decode cX9_rung 23 = .ok (.iconst (-1), 1) := by decide +kernel
theorem dX9_rung_24 : decode cX9_rung 24 = .ok (.ireturn, 1) := by decide +kernel
theorem dX9_rung_25 : decode cX9_rung 25 = .ok (.bipush 15, 2) := by decide +kernel
theorem dX9_rung_27 : decode cX9_rung 27 = .ok (.iconst 5, 1) := by decide +kernel
theorem dX9_rung_28 : decode cX9_rung 28 = .ok (.iload_n 1, 1) := by decide +kernel
theorem dX9_rung_29 : decode cX9_rung 29 = .ok (.imul, 1) := by decide +kernel
theorem dX9_rung_30 : decode cX9_rung 30 = .ok (.iadd, 1) := by decide +kernel
theorem dX9_rung_31 : decode cX9_rung 31 = .ok (.istore_n 2, 1) := by decide +kernel
theorem dX9_rung_32 : decode cX9_rung 32 = .ok (.aload_n 0, 1) := by decide +kernel
theorem dX9_rung_33 : decode cX9_rung 33 = .ok (.iconst 0, 1) := by decide +kernel
theorem dX9_rung_34 : decode cX9_rung 34 = .ok (.putfield 11, 3) := by decide +kernel
theorem dX9_rung_37 : decode cX9_rung 37 = .ok (.iconst 1, 1) := by decide +kernel
theorem dX9_rung_38 : decode cX9_rung 38 = .ok (.istore_n 3, 1) := by decide +kernel
theorem dX9_rung_39 : decode cX9_rung 39 = .ok (.iload_n 3, 1) := by decide +kernel
theorem dX9_rung_40 : decode cX9_rung 40 = .ok (.iconst 5, 1) := by decide +kernel
theorem dX9_rung_41 : decode cX9_rung 41 = .ok (.if_icmp .ge 21, 3) := by decide +kernel
theorem dX9_rung_44 : decode cX9_rung 44 = .ok (.aload_n 0, 1) := by decide +kernel
theorem dX9_rung_45 : decode cX9_rung 45 = .ok (.aload_n 0, 1) := by decide +kernel
theorem dX9_rung_46 : decode cX9_rung 46 = .ok (.iload_n 2, 1) := by decide +kernel
theorem dX9_rung_47 : decode cX9_rung 47 = .ok (.iload_n 3, 1) := by decide +kernel
theorem dX9_rung_48 : decode cX9_rung 48 = .ok (.iadd, 1) := by decide +kernel
theorem dX9_rung_49 : decode cX9_rung 49 = .ok (.invokevirtual 85, 3) := by decide +kernel
theorem dX9_rung_52 : decode cX9_rung 52 = .ok (.i2l, 1) := by decide +kernel
theorem dX9_rung_53 : decode cX9_rung 53 = .ok (.invokevirtual 153, 3) := by decide +kernel
theorem dX9_rung_56 : decode cX9_rung 56 = .ok (.iinc 3 1, 3) := by decide +kernel
theorem dX9_rung_59 : decode cX9_rung 59 = .ok (.goto (-20), 3) := by decide +kernel
theorem dX9_rung_62 : decode cX9_rung 62 = .ok (.aload_n 0, 1) := by decide +kernel
theorem dX9_rung_63 : decode cX9_rung 63 = .ok (.iload_n 2, 1) := by decide +kernel
theorem dX9_rung_64 : decode cX9_rung 64 = .ok (.invokevirtual 85, 3) := by decide +kernel
theorem dX9_rung_67 : decode cX9_rung 67 = .ok (.ireturn, 1) := by decide +kernel
theorem dX9_told_0 : decode cX9_told 0 = .ok (.aload_n 0, 1) := by decide +kernel
theorem dX9_told_1 : decode cX9_told 1 = .ok (.iconst 0, 1) := by decide +kernel
theorem dX9_told_2 : decode cX9_told 2 = .ok (.putfield 1, 3) := by decide +kernel
theorem dX9_told_5 : decode cX9_told 5 = .ok (.iload_n 1, 1) := by decide +kernel
theorem dX9_told_6 : decode cX9_told 6 = .ok (.i2l, 1) := by decide +kernel
theorem dX9_told_7 : decode cX9_told 7 = .ok (.lconst 0, 1) := by decide +kernel
theorem dX9_told_8 : decode cX9_told 8 = .ok (.ldc2_w 274, 3) := by decide +kernel
theorem dX9_told_11 : decode cX9_told 11 = .ok (.invokestatic 21, 3) := by decide +kernel
theorem dX9_told_14 : decode cX9_told 14 = .ok (.ifCond .eq 14, 3) := by decide +kernel
theorem dX9_told_17 : decode cX9_told 17 = .ok (.aload_n 0, 1) := by decide +kernel
theorem dX9_told_18 : decode cX9_told 18 = .ok (.bipush 7, 2) := by decide +kernel
theorem dX9_told_20 : decode cX9_told 20 = .ok (.iload_n 1, 1) := by decide +kernel
theorem dX9_told_21 : decode cX9_told 21 = .ok (.iadd, 1) := by decide +kernel
theorem dX9_told_22 : decode cX9_told 22 = .ok (.invokevirtual 85, 3) := by decide +kernel
theorem dX9_told_25 : decode cX9_told 25 = .ok (.goto 4, 3) := by decide +kernel
theorem dX9_told_28 : decode cX9_told 28 = .ok (.iconst (-1), 1) := by decide +kernel
theorem dX9_told_29 : decode cX9_told 29 = .ok (.ireturn, 1) := by decide +kernel
theorem dX9_pausedMany_0 : decode cX9_pausedMany 0 = .ok (.iconst 0, 1) := by decide +kernel
theorem dX9_pausedMany_1 : decode cX9_pausedMany 1 = .ok (.istore_n 1, 1) := by decide +kernel
theorem dX9_pausedMany_2 : decode cX9_pausedMany 2 = .ok (.iconst 0, 1) := by decide +kernel
theorem dX9_pausedMany_3 : decode cX9_pausedMany 3 = .ok (.istore_n 2, 1) := by decide +kernel
theorem dX9_pausedMany_4 : decode cX9_pausedMany 4 = .ok (.iload_n 2, 1) := by decide +kernel
theorem dX9_pausedMany_5 : decode cX9_pausedMany 5 = .ok (.bipush 16, 2) := by decide +kernel
theorem dX9_pausedMany_7 : decode cX9_pausedMany 7 = .ok (.if_icmp .ge 41, 3) := by decide +kernel
theorem dX9_pausedMany_10 : decode cX9_pausedMany 10 = .ok (.iload_n 1, 1) := by decide +kernel
theorem dX9_pausedMany_11 : decode cX9_pausedMany 11 = .ok (.aload_n 0, 1) := by decide +kernel
theorem dX9_pausedMany_12 : decode cX9_pausedMany 12 = .ok (.iload_n 2, 1) := by decide +kernel
theorem dX9_pausedMany_13 : decode cX9_pausedMany 13 = .ok (.invokevirtual 89, 3) := by decide +kernel
theorem dX9_pausedMany_16 : decode cX9_pausedMany 16 = .ok (.ifCond .eq 20, 3) := by decide +kernel
theorem dX9_pausedMany_19 : decode cX9_pausedMany 19 = .ok (.aload_n 0, 1) := by decide +kernel
theorem dX9_pausedMany_20 : decode cX9_pausedMany 20 = .ok (.sipush 343, 3) := by decide +kernel
theorem dX9_pausedMany_23 : decode cX9_pausedMany 23 = .ok (.iload_n 2, 1) := by decide +kernel
theorem dX9_pausedMany_24 : decode cX9_pausedMany 24 = .ok (.iadd, 1) := by decide +kernel
theorem dX9_pausedMany_25 : decode cX9_pausedMany 25 = .ok (.invokevirtual 85, 3) := by decide +kernel
theorem dX9_pausedMany_28 : decode cX9_pausedMany 28 = .ok (.iconst 1, 1) := by decide +kernel
theorem dX9_pausedMany_29 : decode cX9_pausedMany 29 = .ok (.if_icmp .ne 7, 3) := by decide +kernel
theorem dX9_pausedMany_32 : decode cX9_pausedMany 32 = .ok (.iconst 1, 1) := by decide +kernel
theorem dX9_pausedMany_33 : decode cX9_pausedMany 33 = .ok (.goto 4, 3) := by decide +kernel
theorem dX9_pausedMany_36 : decode cX9_pausedMany 36 = .ok (.iconst 0, 1) := by decide +kernel
theorem dX9_pausedMany_37 : decode cX9_pausedMany 37 = .ok (.invokestatic 31, 3) := by decide +kernel
theorem dX9_pausedMany_40 : decode cX9_pausedMany 40 = .ok (.iadd, 1) := by decide +kernel
theorem dX9_pausedMany_41 : decode cX9_pausedMany 41 = .ok (.istore_n 1, 1) := by decide +kernel
theorem dX9_pausedMany_42 : decode cX9_pausedMany 42 = .ok (.iinc 2 1, 3) := by decide +kernel
theorem dX9_pausedMany_45 : decode cX9_pausedMany 45 = .ok (.goto (-41), 3) := by decide +kernel
theorem dX9_pausedMany_48 : decode cX9_pausedMany 48 = .ok (.iload_n 1, 1) := by decide +kernel
theorem dX9_pausedMany_49 : decode cX9_pausedMany 49 = .ok (.ireturn, 1) := by decide +kernel
theorem dX9_farMany_0 : decode cX9_farMany 0 = .ok (.iconst 0, 1) := by decide +kernel
theorem dX9_farMany_1 : decode cX9_farMany 1 = .ok (.istore_n 1, 1) := by decide +kernel
theorem dX9_farMany_2 : decode cX9_farMany 2 = .ok (.iconst 0, 1) := by decide +kernel
theorem dX9_farMany_3 : decode cX9_farMany 3 = .ok (.istore_n 2, 1) := by decide +kernel
theorem dX9_farMany_4 : decode cX9_farMany 4 = .ok (.iload_n 2, 1) := by decide +kernel
theorem dX9_farMany_5 : decode cX9_farMany 5 = .ok (.bipush 16, 2) := by decide +kernel
theorem dX9_farMany_7 : decode cX9_farMany 7 = .ok (.if_icmp .ge 41, 3) := by decide +kernel
theorem dX9_farMany_10 : decode cX9_farMany 10 = .ok (.iload_n 1, 1) := by decide +kernel
theorem dX9_farMany_11 : decode cX9_farMany 11 = .ok (.aload_n 0, 1) := by decide +kernel
theorem dX9_farMany_12 : decode cX9_farMany 12 = .ok (.iload_n 2, 1) := by decide +kernel
theorem dX9_farMany_13 : decode cX9_farMany 13 = .ok (.invokevirtual 99, 3) := by decide +kernel
theorem dX9_farMany_16 : decode cX9_farMany 16 = .ok (.ifCond .eq 20, 3) := by decide +kernel
theorem dX9_farMany_19 : decode cX9_farMany 19 = .ok (.aload_n 0, 1) := by decide +kernel
theorem dX9_farMany_20 : decode cX9_farMany 20 = .ok (.sipush 391, 3) := by decide +kernel
theorem dX9_farMany_23 : decode cX9_farMany 23 = .ok (.iload_n 2, 1) := by decide +kernel
theorem dX9_farMany_24 : decode cX9_farMany 24 = .ok (.iadd, 1) := by decide +kernel
theorem dX9_farMany_25 : decode cX9_farMany 25 = .ok (.invokevirtual 85, 3) := by decide +kernel
theorem dX9_farMany_28 : decode cX9_farMany 28 = .ok (.iconst (-1), 1) := by decide +kernel
theorem dX9_farMany_29 : decode cX9_farMany 29 = .ok (.if_icmp .ne 7, 3) := by decide +kernel
theorem dX9_farMany_32 : decode cX9_farMany 32 = .ok (.iconst 1, 1) := by decide +kernel
theorem dX9_farMany_33 : decode cX9_farMany 33 = .ok (.goto 4, 3) := by decide +kernel
theorem dX9_farMany_36 : decode cX9_farMany 36 = .ok (.iconst 0, 1) := by decide +kernel
theorem dX9_farMany_37 : decode cX9_farMany 37 = .ok (.invokestatic 31, 3) := by decide +kernel
theorem dX9_farMany_40 : decode cX9_farMany 40 = .ok (.iadd, 1) := by decide +kernel
theorem dX9_farMany_41 : decode cX9_farMany 41 = .ok (.istore_n 1, 1) := by decide +kernel
theorem dX9_farMany_42 : decode cX9_farMany 42 = .ok (.iinc 2 1, 3) := by decide +kernel
theorem dX9_farMany_45 : decode cX9_farMany 45 = .ok (.goto (-41), 3) := by decide +kernel
theorem dX9_farMany_48 : decode cX9_farMany 48 = .ok (.iload_n 1, 1) := by decide +kernel
theorem dX9_farMany_49 : decode cX9_farMany 49 = .ok (.ireturn, 1) := by decide +kernel
theorem dX9_count_0 : decode cX9_count 0 = .ok (.aload_n 0, 1) := by decide +kernel
theorem dX9_count_1 : decode cX9_count 1 = .ok (.iconst 0, 1) := by decide +kernel
theorem dX9_count_2 : decode cX9_count 2 = .ok (.putfield 1, 3) := by decide +kernel
theorem dX9_count_5 : decode cX9_count 5 = .ok (.iload_n 1, 1) := by decide +kernel
theorem dX9_count_6 : decode cX9_count 6 = .ok (.i2l, 1) := by decide +kernel
theorem dX9_count_7 : decode cX9_count 7 = .ok (.ldc2_w 241, 3) := by decide +kernel
theorem dX9_count_10 : decode cX9_count 10 = .ok (.ldc2_w 276, 3) := by decide +kernel
theorem dX9_count_13 : decode cX9_count 13 = .ok (.invokestatic 21, 3) := by decide +kernel
theorem dX9_count_16 : decode cX9_count 16 = .ok (.ifCond .eq 30, 3) := by decide +kernel
theorem dX9_count_19 : decode cX9_count 19 = .ok (.iload_n 1, 1) := by decide +kernel
theorem dX9_count_20 : decode cX9_count 20 = .ok (.bipush 10, 2) := by decide +kernel
theorem dX9_count_22 : decode cX9_count 22 = .ok (.isub, 1) := by decide +kernel
theorem dX9_count_23 : decode cX9_count 23 = .ok (.aload_n 0, 1) := by decide +kernel
theorem dX9_count_24 : decode cX9_count 24 = .ok (.iconst 0, 1) := by decide +kernel
theorem dX9_count_25 : decode cX9_count 25 = .ok (.invokevirtual 85, 3) := by decide +kernel
theorem dX9_count_28 : decode cX9_count 28 = .ok (.if_icmp .ge 16, 3) := by decide +kernel
theorem dX9_count_31 : decode cX9_count 31 = .ok (.aload_n 0, 1) := by decide +kernel
theorem dX9_count_32 : decode cX9_count 32 = .ok (.iconst 1, 1) := by decide +kernel
theorem dX9_count_33 : decode cX9_count 33 = .ok (.iload_n 1, 1) := by decide +kernel
theorem dX9_count_34 : decode cX9_count 34 = .ok (.iadd, 1) := by decide +kernel
theorem dX9_count_35 : decode cX9_count 35 = .ok (.bipush 10, 2) := by decide +kernel
theorem dX9_count_37 : decode cX9_count 37 = .ok (.isub, 1) := by decide +kernel
theorem dX9_count_38 : decode cX9_count 38 = .ok (.invokevirtual 85, 3) := by decide +kernel
theorem dX9_count_41 : decode cX9_count 41 = .ok (.goto 4, 3) := by decide +kernel
theorem dX9_count_44 : decode cX9_count 44 = .ok (.iconst 0, 1) := by decide +kernel
theorem dX9_count_45 : decode cX9_count 45 = .ok (.ireturn, 1) := by decide +kernel
theorem dX9_count_46 : decode cX9_count 46 = .ok (.iload_n 1, 1) := by decide +kernel
theorem dX9_count_47 : decode cX9_count 47 = .ok (.tableswitch 109 0 9 #[53, 60, 66, 71, 76, 81, 86, 92, 99, 104], 53) := by decide +kernel
theorem dX9_count_100 : decode cX9_count 100 = .ok (.aload_n 0, 1) := by decide +kernel
theorem dX9_count_101 : decode cX9_count 101 = .ok (.bipush 6, 2) := by decide +kernel
theorem dX9_count_103 : decode cX9_count 103 = .ok (.invokevirtual 85, 3) := by decide +kernel
theorem dX9_count_106 : decode cX9_count 106 = .ok (.ireturn, 1) := by decide +kernel
theorem dX9_count_107 : decode cX9_count 107 = .ok (.aload_n 0, 1) := by decide +kernel
theorem dX9_count_108 : decode cX9_count 108 = .ok (.iconst 0, 1) := by decide +kernel
theorem dX9_count_109 : decode cX9_count 109 = .ok (.invokevirtual 85, 3) := by decide +kernel
theorem dX9_count_112 : decode cX9_count 112 = .ok (.ireturn, 1) := by decide +kernel
theorem dX9_count_113 : decode cX9_count 113 = .ok (.aload_n 0, 1) := by decide +kernel
theorem dX9_count_114 : decode cX9_count 114 = .ok (.invokevirtual 135, 3) := by decide +kernel
theorem dX9_count_117 : decode cX9_count 117 = .ok (.ireturn, 1) := by decide +kernel
theorem dX9_count_118 : decode cX9_count 118 = .ok (.aload_n 0, 1) := by decide +kernel
theorem dX9_count_119 : decode cX9_count 119 = .ok (.invokevirtual 213, 3) := by decide +kernel
theorem dX9_count_122 : decode cX9_count 122 = .ok (.ireturn, 1) := by decide +kernel
theorem dX9_count_123 : decode cX9_count 123 = .ok (.aload_n 0, 1) := by decide +kernel
theorem dX9_count_124 : decode cX9_count 124 = .ok (.invokevirtual 278, 3) := by decide +kernel
theorem dX9_count_127 : decode cX9_count 127 = .ok (.ireturn, 1) := by decide +kernel
theorem dX9_count_128 : decode cX9_count 128 = .ok (.aload_n 0, 1) := by decide +kernel
theorem dX9_count_129 : decode cX9_count 129 = .ok (.invokevirtual 281, 3) := by decide +kernel
theorem dX9_count_132 : decode cX9_count 132 = .ok (.ireturn, 1) := by decide +kernel
theorem dX9_count_133 : decode cX9_count 133 = .ok (.aload_n 0, 1) := by decide +kernel
theorem dX9_count_134 : decode cX9_count 134 = .ok (.iconst 5, 1) := by decide +kernel
theorem dX9_count_135 : decode cX9_count 135 = .ok (.invokevirtual 85, 3) := by decide +kernel
theorem dX9_count_138 : decode cX9_count 138 = .ok (.ireturn, 1) := by decide +kernel
theorem dX9_count_139 : decode cX9_count 139 = .ok (.aload_n 0, 1) := by decide +kernel
theorem dX9_count_140 : decode cX9_count 140 = .ok (.bipush 14, 2) := by decide +kernel
theorem dX9_count_142 : decode cX9_count 142 = .ok (.invokevirtual 85, 3) := by decide +kernel
theorem dX9_count_145 : decode cX9_count 145 = .ok (.ireturn, 1) := by decide +kernel
theorem dX9_count_146 : decode cX9_count 146 = .ok (.aload_n 0, 1) := by decide +kernel
theorem dX9_count_147 : decode cX9_count 147 = .ok (.getfield 11, 3) := by decide +kernel
theorem dX9_count_150 : decode cX9_count 150 = .ok (.ireturn, 1) := by decide +kernel
theorem dX9_count_151 : decode cX9_count 151 = .ok (.aload_n 0, 1) := by decide +kernel
theorem dX9_count_152 : decode cX9_count 152 = .ok (.getfield 14, 3) := by decide +kernel
theorem dX9_count_155 : decode cX9_count 155 = .ok (.ireturn, 1) := by decide +kernel
theorem dX9_count_156 : decode cX9_count 156 = .ok (.iconst (-1), 1) := by decide +kernel
theorem dX9_count_157 : decode cX9_count 157 = .ok (.ireturn, 1) := by decide +kernel
theorem dX9_row_0 : decode cX9_row 0 = .ok (.aload_n 0, 1) := by decide +kernel
theorem dX9_row_1 : decode cX9_row 1 = .ok (.iload_n 1, 1) := by decide +kernel
theorem dX9_row_2 : decode cX9_row 2 = .ok (.i2l, 1) := by decide +kernel
theorem dX9_row_3 : decode cX9_row 3 = .ok (.lconst 0, 1) := by decide +kernel
theorem dX9_row_4 : decode cX9_row 4 = .ok (.aload_n 0, 1) := by decide +kernel
theorem dX9_row_5 : decode cX9_row 5 = .ok (.getfield 11, 3) := by decide +kernel
theorem dX9_row_8 : decode cX9_row 8 = .ok (.iconst 1, 1) := by decide +kernel
theorem dX9_row_9 : decode cX9_row 9 = .ok (.isub, 1) := by decide +kernel
theorem dX9_row_10 : decode cX9_row 10 = .ok (.i2l, 1) := by decide +kernel
theorem dX9_row_11 : decode cX9_row 11 = .ok (.invokestatic 21, 3) := by decide +kernel
theorem dX9_row_14 : decode cX9_row 14 = .ok (.ifCond .ne 7, 3) := by decide +kernel
theorem dX9_row_17 : decode cX9_row 17 = .ok (.iconst 1, 1) := by decide +kernel
theorem dX9_row_18 : decode cX9_row 18 = .ok (.goto 4, 3) := by decide +kernel
theorem dX9_row_21 : decode cX9_row 21 = .ok (.iconst 0, 1) := by decide +kernel
theorem dX9_row_22 : decode cX9_row 22 = .ok (.invokestatic 31, 3) := by decide +kernel
theorem dX9_row_25 : decode cX9_row 25 = .ok (.putfield 1, 3) := by decide +kernel
theorem dX9_row_28 : decode cX9_row 28 = .ok (.aload_n 0, 1) := by decide +kernel
theorem dX9_row_29 : decode cX9_row 29 = .ok (.getfield 1, 3) := by decide +kernel
theorem dX9_row_32 : decode cX9_row 32 = .ok (.iconst 1, 1) := by decide +kernel
theorem dX9_row_33 : decode cX9_row 33 = .ok (.if_icmp .ne 7, 3) := by decide +kernel
theorem dX9_row_36 : decode cX9_row 36 = .ok (.lconst 0, 1) := by decide +kernel
theorem dX9_row_37 : decode cX9_row 37 = .ok (.goto 9, 3) := by decide +kernel
theorem dX9_row_40 : decode cX9_row 40 = .ok (.aload_n 0, 1) := by decide +kernel
theorem dX9_row_41 : decode cX9_row 41 = .ok (.getfield 7, 3) := by decide +kernel
theorem dX9_row_44 : decode cX9_row 44 = .ok (.iload_n 1, 1) := by decide +kernel
theorem dX9_row_45 : decode cX9_row 45 = .ok (.laload, 1) := by decide +kernel
theorem dX9_row_46 : decode cX9_row 46 = .ok (.lreturn, 1) := by decide +kernel
theorem dJ9_floorMod_7cf53_0 : decode cJ9_floorMod_7cf53 0 = .ok (.iload_n 0, 1) := by decide +kernel
theorem dJ9_floorMod_7cf53_1 : decode cJ9_floorMod_7cf53 1 = .ok (.iload_n 1, 1) := by decide +kernel
theorem dJ9_floorMod_7cf53_2 : decode cJ9_floorMod_7cf53 2 = .ok (.irem, 1) := by decide +kernel
theorem dJ9_floorMod_7cf53_3 : decode cJ9_floorMod_7cf53 3 = .ok (.istore_n 2, 1) := by decide +kernel
theorem dJ9_floorMod_7cf53_4 : decode cJ9_floorMod_7cf53 4 = .ok (.iload_n 0, 1) := by decide +kernel
theorem dJ9_floorMod_7cf53_5 : decode cJ9_floorMod_7cf53 5 = .ok (.iload_n 1, 1) := by decide +kernel
theorem dJ9_floorMod_7cf53_6 : decode cJ9_floorMod_7cf53 6 = .ok (.ixor, 1) := by decide +kernel
theorem dJ9_floorMod_7cf53_7 : decode cJ9_floorMod_7cf53 7 = .ok (.ifCond .ge 11, 3) := by decide +kernel
theorem dJ9_floorMod_7cf53_10 : decode cJ9_floorMod_7cf53 10 = .ok (.iload_n 2, 1) := by decide +kernel
theorem dJ9_floorMod_7cf53_11 : decode cJ9_floorMod_7cf53 11 = .ok (.ifCond .eq 7, 3) := by decide +kernel
theorem dJ9_floorMod_7cf53_14 : decode cJ9_floorMod_7cf53 14 = .ok (.iload_n 2, 1) := by decide +kernel
theorem dJ9_floorMod_7cf53_15 : decode cJ9_floorMod_7cf53 15 = .ok (.iload_n 1, 1) := by decide +kernel
theorem dJ9_floorMod_7cf53_16 : decode cJ9_floorMod_7cf53 16 = .ok (.iadd, 1) := by decide +kernel
theorem dJ9_floorMod_7cf53_17 : decode cJ9_floorMod_7cf53 17 = .ok (.ireturn, 1) := by decide +kernel
theorem dJ9_floorMod_7cf53_18 : decode cJ9_floorMod_7cf53 18 = .ok (.iload_n 2, 1) := by decide +kernel
theorem dJ9_floorMod_7cf53_19 : decode cJ9_floorMod_7cf53 19 = .ok (.ireturn, 1) := by decide +kernel
theorem dJ9_abs_0f7a4_0 : decode cJ9_abs_0f7a4 0 = .ok (.iload_n 0, 1) := by decide +kernel
theorem dJ9_abs_0f7a4_1 : decode cJ9_abs_0f7a4 1 = .ok (.ifCond .ge 8, 3) := by decide +kernel
theorem dJ9_abs_0f7a4_4 : decode cJ9_abs_0f7a4 4 = .ok (.iload_n 0, 1) := by decide +kernel
theorem dJ9_abs_0f7a4_5 : decode cJ9_abs_0f7a4 5 = .ok (.ineg, 1) := by decide +kernel
theorem dJ9_abs_0f7a4_6 : decode cJ9_abs_0f7a4 6 = .ok (.goto 4, 3) := by decide +kernel
theorem dJ9_abs_0f7a4_9 : decode cJ9_abs_0f7a4 9 = .ok (.iload_n 0, 1) := by decide +kernel
theorem dJ9_abs_0f7a4_10 : decode cJ9_abs_0f7a4 10 = .ok (.ireturn, 1) := by decide +kernel
theorem dJ9_max_7cf53_0 : decode cJ9_max_7cf53 0 = .ok (.iload_n 0, 1) := by decide +kernel
theorem dJ9_max_7cf53_1 : decode cJ9_max_7cf53 1 = .ok (.iload_n 1, 1) := by decide +kernel
theorem dJ9_max_7cf53_2 : decode cJ9_max_7cf53 2 = .ok (.if_icmp .lt 7, 3) := by decide +kernel
theorem dJ9_max_7cf53_5 : decode cJ9_max_7cf53 5 = .ok (.iload_n 0, 1) := by decide +kernel
theorem dJ9_max_7cf53_6 : decode cJ9_max_7cf53 6 = .ok (.goto 4, 3) := by decide +kernel
theorem dJ9_max_7cf53_9 : decode cJ9_max_7cf53 9 = .ok (.iload_n 1, 1) := by decide +kernel
theorem dJ9_max_7cf53_10 : decode cJ9_max_7cf53 10 = .ok (.ireturn, 1) := by decide +kernel
theorem dJ9_min_7cf53_0 : decode cJ9_min_7cf53 0 = .ok (.iload_n 0, 1) := by decide +kernel
theorem dJ9_min_7cf53_1 : decode cJ9_min_7cf53 1 = .ok (.iload_n 1, 1) := by decide +kernel
theorem dJ9_min_7cf53_2 : decode cJ9_min_7cf53 2 = .ok (.if_icmp .gt 7, 3) := by decide +kernel
theorem dJ9_min_7cf53_5 : decode cJ9_min_7cf53 5 = .ok (.iload_n 0, 1) := by decide +kernel
theorem dJ9_min_7cf53_6 : decode cJ9_min_7cf53 6 = .ok (.goto 4, 3) := by decide +kernel
theorem dJ9_min_7cf53_9 : decode cJ9_min_7cf53 9 = .ok (.iload_n 1, 1) := by decide +kernel
theorem dJ9_min_7cf53_10 : decode cJ9_min_7cf53 10 = .ok (.ireturn, 1) := by decide +kernel
theorem dJ7_fill_53178_0 : decode cJ7_fill_53178 0 = .ok (.iconst 0, 1) := by decide +kernel
theorem dJ7_fill_53178_1 : decode cJ7_fill_53178 1 = .ok (.istore_n 2, 1) := by decide +kernel
theorem dJ7_fill_53178_2 : decode cJ7_fill_53178 2 = .ok (.aload_n 0, 1) := by decide +kernel
theorem dJ7_fill_53178_3 : decode cJ7_fill_53178 3 = .ok (.arraylength, 1) := by decide +kernel
theorem dJ7_fill_53178_4 : decode cJ7_fill_53178 4 = .ok (.istore_n 3, 1) := by decide +kernel
theorem dJ7_fill_53178_5 : decode cJ7_fill_53178 5 = .ok (.iload_n 2, 1) := by decide +kernel
theorem dJ7_fill_53178_6 : decode cJ7_fill_53178 6 = .ok (.iload_n 3, 1) := by decide +kernel
theorem dJ7_fill_53178_7 : decode cJ7_fill_53178 7 = .ok (.if_icmp .ge 13, 3) := by decide +kernel
theorem dJ7_fill_53178_10 : decode cJ7_fill_53178 10 = .ok (.aload_n 0, 1) := by decide +kernel
theorem dJ7_fill_53178_11 : decode cJ7_fill_53178 11 = .ok (.iload_n 2, 1) := by decide +kernel
theorem dJ7_fill_53178_12 : decode cJ7_fill_53178 12 = .ok (.iload_n 1, 1) := by decide +kernel
theorem dJ7_fill_53178_13 : decode cJ7_fill_53178 13 = .ok (.iastore, 1) := by decide +kernel
theorem dJ7_fill_53178_14 : decode cJ7_fill_53178 14 = .ok (.iinc 2 1, 3) := by decide +kernel
theorem dJ7_fill_53178_17 : decode cJ7_fill_53178 17 = .ok (.goto (-12), 3) := by decide +kernel
theorem dJ7_fill_53178_20 : decode cJ7_fill_53178 20 = .ok (.return_, 1) := by decide +kernel
end
section
section EXACT
/-- an exact contract: the answer and the memory behind it -/
def Cf (S : Sh) (w : Wp) (d : Nat) (M : Md) (as : List Value) (σ : Mm) (r : Option Value) (τ : Mm) : Prop := Ct S w d M as σ (fun r' σ' => r' = r ∧ σ' = τ)
variable {S : Sh} {w : Wp} {x : Cx} {own : String} {M : Md} {pc d : Nat} {ls : List (Nat × Value)} {st : List Value} {σ τ : Mm} {Q' : Option Value → Mm → Prop}
theorem V_cVi {idx ci a n d' : Nat} {v : Int32} {M' : Md} {As st0 : List Value} (o : Ok S w x own M) (r : Rt S w x d M Q') (hd : decode M.2.1 pc = .ok (.invokevirtual idx, 3)) (hl : LV own idx ci M' n) (hc : Cf S w d' M' (.ref a :: As) σ (some (.int v)) τ) (hk : S.2.1 a = ci) (hn : As.length = n) (hst : st0 = As.reverse ++ .ref a :: st) (hs : (st.map Value.category).sum ≤ 8) (hR : (Nat.ble (d' + 1) d && Nat.ble (8 + (M'.2.2.1 + 11) + 40 * d') (40 * d)) = true) (k : V S w x M (0, 0) (pc + 3) ls (.int v :: st) τ) : V S w x M (0, 0) pc ls st0 σ := V_callV o r hd hl hc hk hn hst hs hR (fun r' σ' q => by obtain ⟨q1, q2⟩ := q; subst q1; subst q2; exact k)
theorem V_cVl {idx ci a n d' : Nat} {v : Int64} {M' : Md} {As st0 : List Value} (o : Ok S w x own M) (r : Rt S w x d M Q') (hd : decode M.2.1 pc = .ok (.invokevirtual idx, 3)) (hl : LV own idx ci M' n) (hc : Cf S w d' M' (.ref a :: As) σ (some (.long v)) τ) (hk : S.2.1 a = ci) (hn : As.length = n) (hst : st0 = As.reverse ++ .ref a :: st) (hs : (st.map Value.category).sum ≤ 8) (hR : (Nat.ble (d' + 1) d && Nat.ble (8 + (M'.2.2.1 + 11) + 40 * d') (40 * d)) = true) (k : V S w x M (0, 0) (pc + 3) ls (.long v :: st) τ) : V S w x M (0, 0) pc ls st0 σ := V_callV o r hd hl hc hk hn hst hs hR (fun r' σ' q => by obtain ⟨q1, q2⟩ := q; subst q1; subst q2; exact k)
theorem V_cVr {idx ci a n d' : Nat} {v : Nat} {M' : Md} {As st0 : List Value} (o : Ok S w x own M) (r : Rt S w x d M Q') (hd : decode M.2.1 pc = .ok (.invokevirtual idx, 3)) (hl : LV own idx ci M' n) (hc : Cf S w d' M' (.ref a :: As) σ (some (.ref v)) τ) (hk : S.2.1 a = ci) (hn : As.length = n) (hst : st0 = As.reverse ++ .ref a :: st) (hs : (st.map Value.category).sum ≤ 8) (hR : (Nat.ble (d' + 1) d && Nat.ble (8 + (M'.2.2.1 + 11) + 40 * d') (40 * d)) = true) (k : V S w x M (0, 0) (pc + 3) ls (.ref v :: st) τ) : V S w x M (0, 0) pc ls st0 σ := V_callV o r hd hl hc hk hn hst hs hR (fun r' σ' q => by obtain ⟨q1, q2⟩ := q; subst q1; subst q2; exact k)
theorem V_cVn {idx ci a n d' : Nat}  {M' : Md} {As st0 : List Value} (o : Ok S w x own M) (r : Rt S w x d M Q') (hd : decode M.2.1 pc = .ok (.invokevirtual idx, 3)) (hl : LV own idx ci M' n) (hc : Cf S w d' M' (.ref a :: As) σ (some .null) τ) (hk : S.2.1 a = ci) (hn : As.length = n) (hst : st0 = As.reverse ++ .ref a :: st) (hs : (st.map Value.category).sum ≤ 8) (hR : (Nat.ble (d' + 1) d && Nat.ble (8 + (M'.2.2.1 + 11) + 40 * d') (40 * d)) = true) (k : V S w x M (0, 0) (pc + 3) ls (.null :: st) τ) : V S w x M (0, 0) pc ls st0 σ := V_callV o r hd hl hc hk hn hst hs hR (fun r' σ' q => by obtain ⟨q1, q2⟩ := q; subst q1; subst q2; exact k)
theorem V_cVv {idx ci a n d' : Nat}  {M' : Md} {As st0 : List Value} (o : Ok S w x own M) (r : Rt S w x d M Q') (hd : decode M.2.1 pc = .ok (.invokevirtual idx, 3)) (hl : LV own idx ci M' n) (hc : Cf S w d' M' (.ref a :: As) σ none τ) (hk : S.2.1 a = ci) (hn : As.length = n) (hst : st0 = As.reverse ++ .ref a :: st) (hs : (st.map Value.category).sum ≤ 8) (hR : (Nat.ble (d' + 1) d && Nat.ble (8 + (M'.2.2.1 + 11) + 40 * d') (40 * d)) = true) (k : V S w x M (0, 0) (pc + 3) ls (st) τ) : V S w x M (0, 0) pc ls st0 σ := V_callV o r hd hl hc hk hn hst hs hR (fun r' σ' q => by obtain ⟨q1, q2⟩ := q; subst q1; subst q2; exact k)
theorem V_cSi {idx n d' : Nat} {v : Int32} {M' : Md} {As st0 : List Value} (o : Ok S w x own M) (r : Rt S w x d M Q') (hd : decode M.2.1 pc = .ok (.invokestatic idx, 3)) (hl : Lst own idx M' n) (hc : Cf S w d' M' As σ (some (.int v)) τ) (hn : As.length = n) (hst : st0 = As.reverse ++ st) (hs : (st.map Value.category).sum ≤ 8) (hR : (Nat.ble (d' + 1) d && Nat.ble (8 + (M'.2.2.1 + 11) + 40 * d') (40 * d)) = true) (k : V S w x M (0, 0) (pc + 3) ls (.int v :: st) τ) : V S w x M (0, 0) pc ls st0 σ := V_callS o r hd hl hc hn hst hs hR (fun r' σ' q => by obtain ⟨q1, q2⟩ := q; subst q1; subst q2; exact k)
theorem V_cSl {idx n d' : Nat} {v : Int64} {M' : Md} {As st0 : List Value} (o : Ok S w x own M) (r : Rt S w x d M Q') (hd : decode M.2.1 pc = .ok (.invokestatic idx, 3)) (hl : Lst own idx M' n) (hc : Cf S w d' M' As σ (some (.long v)) τ) (hn : As.length = n) (hst : st0 = As.reverse ++ st) (hs : (st.map Value.category).sum ≤ 8) (hR : (Nat.ble (d' + 1) d && Nat.ble (8 + (M'.2.2.1 + 11) + 40 * d') (40 * d)) = true) (k : V S w x M (0, 0) (pc + 3) ls (.long v :: st) τ) : V S w x M (0, 0) pc ls st0 σ := V_callS o r hd hl hc hn hst hs hR (fun r' σ' q => by obtain ⟨q1, q2⟩ := q; subst q1; subst q2; exact k)
theorem V_cSr {idx n d' : Nat} {v : Nat} {M' : Md} {As st0 : List Value} (o : Ok S w x own M) (r : Rt S w x d M Q') (hd : decode M.2.1 pc = .ok (.invokestatic idx, 3)) (hl : Lst own idx M' n) (hc : Cf S w d' M' As σ (some (.ref v)) τ) (hn : As.length = n) (hst : st0 = As.reverse ++ st) (hs : (st.map Value.category).sum ≤ 8) (hR : (Nat.ble (d' + 1) d && Nat.ble (8 + (M'.2.2.1 + 11) + 40 * d') (40 * d)) = true) (k : V S w x M (0, 0) (pc + 3) ls (.ref v :: st) τ) : V S w x M (0, 0) pc ls st0 σ := V_callS o r hd hl hc hn hst hs hR (fun r' σ' q => by obtain ⟨q1, q2⟩ := q; subst q1; subst q2; exact k)
theorem V_cSn {idx n d' : Nat}  {M' : Md} {As st0 : List Value} (o : Ok S w x own M) (r : Rt S w x d M Q') (hd : decode M.2.1 pc = .ok (.invokestatic idx, 3)) (hl : Lst own idx M' n) (hc : Cf S w d' M' As σ (some .null) τ) (hn : As.length = n) (hst : st0 = As.reverse ++ st) (hs : (st.map Value.category).sum ≤ 8) (hR : (Nat.ble (d' + 1) d && Nat.ble (8 + (M'.2.2.1 + 11) + 40 * d') (40 * d)) = true) (k : V S w x M (0, 0) (pc + 3) ls (.null :: st) τ) : V S w x M (0, 0) pc ls st0 σ := V_callS o r hd hl hc hn hst hs hR (fun r' σ' q => by obtain ⟨q1, q2⟩ := q; subst q1; subst q2; exact k)
theorem V_cSv {idx n d' : Nat}  {M' : Md} {As st0 : List Value} (o : Ok S w x own M) (r : Rt S w x d M Q') (hd : decode M.2.1 pc = .ok (.invokestatic idx, 3)) (hl : Lst own idx M' n) (hc : Cf S w d' M' As σ none τ) (hn : As.length = n) (hst : st0 = As.reverse ++ st) (hs : (st.map Value.category).sum ≤ 8) (hR : (Nat.ble (d' + 1) d && Nat.ble (8 + (M'.2.2.1 + 11) + 40 * d') (40 * d)) = true) (k : V S w x M (0, 0) (pc + 3) ls (st) τ) : V S w x M (0, 0) pc ls st0 σ := V_callS o r hd hl hc hn hst hs hR (fun r' σ' q => by obtain ⟨q1, q2⟩ := q; subst q1; subst q2; exact k)
theorem V_cSNi {idx n d' : Nat} {v : Int32} {M' : Md} {As st0 : List Value} (o : Ok S w x own M) (r : Rt S w x d M Q') (hd : decode M.2.1 pc = .ok (.invokestatic idx, 3)) (hl : Lsn own idx M' n) (hc : Cf S w d' M' As σ (some (.int v)) τ) (hn : As.length = n) (hst : st0 = As.reverse ++ st) (hs : (st.map Value.category).sum ≤ 8) (hR : (Nat.ble (d' + 1) d && Nat.ble (8 + (M'.2.2.1 + 11) + 40 * d') (40 * d)) = true) (k : V S w x M (0, 0) (pc + 3) ls (.int v :: st) τ) : V S w x M (0, 0) pc ls st0 σ := V_callSN o r hd hl hc hn hst hs hR (fun r' σ' q => by obtain ⟨q1, q2⟩ := q; subst q1; subst q2; exact k)
theorem V_cSNl {idx n d' : Nat} {v : Int64} {M' : Md} {As st0 : List Value} (o : Ok S w x own M) (r : Rt S w x d M Q') (hd : decode M.2.1 pc = .ok (.invokestatic idx, 3)) (hl : Lsn own idx M' n) (hc : Cf S w d' M' As σ (some (.long v)) τ) (hn : As.length = n) (hst : st0 = As.reverse ++ st) (hs : (st.map Value.category).sum ≤ 8) (hR : (Nat.ble (d' + 1) d && Nat.ble (8 + (M'.2.2.1 + 11) + 40 * d') (40 * d)) = true) (k : V S w x M (0, 0) (pc + 3) ls (.long v :: st) τ) : V S w x M (0, 0) pc ls st0 σ := V_callSN o r hd hl hc hn hst hs hR (fun r' σ' q => by obtain ⟨q1, q2⟩ := q; subst q1; subst q2; exact k)
theorem V_cSNr {idx n d' : Nat} {v : Nat} {M' : Md} {As st0 : List Value} (o : Ok S w x own M) (r : Rt S w x d M Q') (hd : decode M.2.1 pc = .ok (.invokestatic idx, 3)) (hl : Lsn own idx M' n) (hc : Cf S w d' M' As σ (some (.ref v)) τ) (hn : As.length = n) (hst : st0 = As.reverse ++ st) (hs : (st.map Value.category).sum ≤ 8) (hR : (Nat.ble (d' + 1) d && Nat.ble (8 + (M'.2.2.1 + 11) + 40 * d') (40 * d)) = true) (k : V S w x M (0, 0) (pc + 3) ls (.ref v :: st) τ) : V S w x M (0, 0) pc ls st0 σ := V_callSN o r hd hl hc hn hst hs hR (fun r' σ' q => by obtain ⟨q1, q2⟩ := q; subst q1; subst q2; exact k)
theorem V_cSNn {idx n d' : Nat}  {M' : Md} {As st0 : List Value} (o : Ok S w x own M) (r : Rt S w x d M Q') (hd : decode M.2.1 pc = .ok (.invokestatic idx, 3)) (hl : Lsn own idx M' n) (hc : Cf S w d' M' As σ (some .null) τ) (hn : As.length = n) (hst : st0 = As.reverse ++ st) (hs : (st.map Value.category).sum ≤ 8) (hR : (Nat.ble (d' + 1) d && Nat.ble (8 + (M'.2.2.1 + 11) + 40 * d') (40 * d)) = true) (k : V S w x M (0, 0) (pc + 3) ls (.null :: st) τ) : V S w x M (0, 0) pc ls st0 σ := V_callSN o r hd hl hc hn hst hs hR (fun r' σ' q => by obtain ⟨q1, q2⟩ := q; subst q1; subst q2; exact k)
theorem V_cSNv {idx n d' : Nat}  {M' : Md} {As st0 : List Value} (o : Ok S w x own M) (r : Rt S w x d M Q') (hd : decode M.2.1 pc = .ok (.invokestatic idx, 3)) (hl : Lsn own idx M' n) (hc : Cf S w d' M' As σ none τ) (hn : As.length = n) (hst : st0 = As.reverse ++ st) (hs : (st.map Value.category).sum ≤ 8) (hR : (Nat.ble (d' + 1) d && Nat.ble (8 + (M'.2.2.1 + 11) + 40 * d') (40 * d)) = true) (k : V S w x M (0, 0) (pc + 3) ls (st) τ) : V S w x M (0, 0) pc ls st0 σ := V_callSN o r hd hl hc hn hst hs hR (fun r' σ' q => by obtain ⟨q1, q2⟩ := q; subst q1; subst q2; exact k)
end EXACT
/-! THE SHAPE: 0 the script; 1 DueWheels; 2 .. 24 its works 'now' (3 shape, 4 sizes, 5 spans, 6 timers, 7 line, 8 the line's row, 9 .. 24 the timers), 25 .. 47 'then' likewise; 48 the other shape, 49, 50; 51 groups; 52 row, 53; 54 log, 55 .. 59; 60 text, 61; 62 acts, 63 .. 66; 67 the reference, 68 row, 69 tape, 70 mem, 71 line, 72 heard, 73 heardWith, 74 wish, 75 act, 76 wayClock, 77 wayLevel, 78 byGroup -/
def kdl : List Nat := [99, 8, 7, 4, 10, 10, 13, 1, 12, 6, 6, 6, 6, 6, 6, 6, 6, 6, 6, 6, 6, 6, 6, 6, 6, 7, 4, 10, 10, 13, 1, 12, 6, 6, 6, 6, 6, 6, 6, 6, 6, 6, 6, 6, 6, 6, 6, 6, 4, 10, 10, 10, 3, 11, 2, 10, 10, 10, 10, 10, 5, 10, 0, 10, 10, 10, 10, 9, 11, 10, 10, 10, 10, 10, 10, 10, 10, 10, 10]
def lnl : List Nat := [0, 0, 0, 0, 4, 4, 16, 0, 16, 0, 0, 0, 0, 0, 0, 0, 0, 0, 0, 0, 0, 0, 0, 0, 0, 0, 0, 4, 4, 16, 0, 16, 0, 0, 0, 0, 0, 0, 0, 0, 0, 0, 0, 0, 0, 0, 0, 0, 0, 4, 4, 8, 0, 40, 0, 40, 40, 40, 40, 40, 0, 100, 0, 34, 34, 34, 34, 0, 64, 100, 846, 16, 2000, 2000, 4, 400, 8, 8, 8]
def kd0 (a : Nat) : Nat := kdl.getD a 99
def ln0 (a : Nat) : Nat := lnl.getD a 0
def rck (k a j : Nat) : Option Nat := match k with
  | 0 => if j < 4 then some (a + 1 + j) else none
  | 1 => if j = 0 then some (a + 1) else none
  | 2 => if j < 5 then some (a + 1 + j) else none
  | 3 => if j = 0 then some (a + 1) else none
  | 4 => if j < 2 then some (a + 1 + j) else none
  | 5 => if j = 0 then some (a + 1) else none
  | 7 => match j with | 0 => some (a + 1) | 1 => some (a + 4) | 2 => some (a + 5) | _ => none
  | 8 => match j with | 0 => some 2 | 1 => some 25 | 2 => some 48 | 3 => some 51 | 4 => some 52 | 5 => some 54 | 6 => some 60 | 7 => some 62 | _ => none
  | 9 => match j with | 2 => some 68 | 3 => some 69 | 7 => some 70 | 9 => some 71 | 11 => some 72 | 12 => some 73 | 14 => some 74 | 15 => some 75 | 16 => some 76 | 17 => some 77 | 20 => some 78 | _ => none
  | _ => none
def rc0 (a j : Nat) : Option Nat := rck (kd0 a) a j
def sh0 : Sh := ((List.range 79).drop 1, kd0, ln0, rc0)
def bz (p : Prop) [Decidable p] : Int32 := if p then 1 else 0
theorem bz_t {p : Prop} [Decidable p] (h : p) : bz p = 1 := if_pos h
theorem bz_f {p : Prop} [Decidable p] (h : ¬ p) : bz p = 0 := if_neg h
theorem bz_0 {p : Prop} [Decidable p] : bz p = 0 ↔ ¬ p := by unfold bz; split <;> simp_all
theorem bz_n0 {p : Prop} [Decidable p] : ¬ bz p = 0 ↔ p := by unfold bz; split <;> simp_all
theorem bz_z {p : Prop} [Decidable p] : narrow .boolean (.int (bz p)) = .int (bz p) := by unfold bz; split <;> rfl
section NAT
theorem nadd {a b : Int32} {i j : Nat} (ha : a = nI i) (hb : b = nI j) : a + b = nI (i + j) := by rw [ha, hb]; exact nI_add i j
theorem nmul {a b : Int32} {i j : Nat} (ha : a = nI i) (hb : b = nI j) : a * b = nI (i * j) := by rw [ha, hb]; exact (Int32.ofNat_mul i j).symm
theorem ninc {a : Int32} {i : Nat} (c : Nat) (ha : a = nI i) : a + Int32.ofInt (c : Int) = nI (i + c) := by
  rw [ha]
  exact nI_add i c
theorem vin {v : Int32} {n N : Nat} (hv : v = nI n) (h : n < N) (hN : N < 2147483648) : vp_in v N := by rw [hv]; exact nI_in h hN
theorem ixn {v : Int32} {n : Nat} (hv : v = nI n) (h : n < 2147483648) : ix v = n := by rw [hv]; exact nI_clamp h
variable {S : Sh} {w : Wp} {x : Cx} {own : String} {M : Md} {cn : Nat × Nat} {pc : Nat} {ls : List (Nat × Value)} {st : List Value} {σ : Mm}
theorem V_ialdN {a n : Nat} {i : Int32} (N : Nat) (o : Ok S w x own M) (hd : decode M.2.1 pc = .ok (.iaload, 1)) (hk : S.2.1 a = 10) (hl : S.2.2.1 a = N) (hi : i = nI n) (hn : n < N) (hN : Nat.ble N 2147483647 = true)
    (k : V S w x M cn (pc + 1) ls (.int (σ.1 a n) :: st) σ) : V S w x M cn pc ls (.int i :: .ref a :: st) σ := by
  have hN' : N < 2147483648 := Nat.lt_succ_of_le (Nat.le_of_ble_eq_true hN)
  refine V_iald o hd hk (by rw [hl]; exact vin hi hn hN') ?_
  rw [ixn hi (Nat.lt_trans hn hN')]; exact k
theorem V_laldN {a n : Nat} {i : Int32} (N : Nat) (o : Ok S w x own M) (hd : decode M.2.1 pc = .ok (.laload, 1)) (hk : S.2.1 a = 11) (hl : S.2.2.1 a = N) (hi : i = nI n) (hn : n < N) (hN : Nat.ble N 2147483647 = true)
    (k : V S w x M cn (pc + 1) ls (.long (σ.2.1 a n) :: st) σ) : V S w x M cn pc ls (.int i :: .ref a :: st) σ := by
  have hN' : N < 2147483648 := Nat.lt_succ_of_le (Nat.le_of_ble_eq_true hN)
  refine V_lald o hd hk (by rw [hl]; exact vin hi hn hN') ?_
  rw [ixn hi (Nat.lt_trans hn hN')]; exact k
theorem V_iastN {a n : Nat} {i v : Int32} (N : Nat) (o : Ok S w x own M) (hd : decode M.2.1 pc = .ok (.iastore, 1)) (hk : S.2.1 a = 10) (hl : S.2.2.1 a = N) (hi : i = nI n) (hn : n < N) (hN : Nat.ble N 2147483647 = true)
    (k : V S w x M cn (pc + 1) ls st (wI σ a n v)) : V S w x M cn pc ls (.int v :: .int i :: .ref a :: st) σ := by
  have hN' : N < 2147483648 := Nat.lt_succ_of_le (Nat.le_of_ble_eq_true hN)
  refine V_iast o hd hk (by rw [hl]; exact vin hi hn hN') ?_
  rw [ixn hi (Nat.lt_trans hn hN')]; exact k
theorem V_lastN {a n : Nat} {i : Int32} {v : Int64} (N : Nat) (o : Ok S w x own M) (hd : decode M.2.1 pc = .ok (.lastore, 1)) (hk : S.2.1 a = 11) (hl : S.2.2.1 a = N) (hi : i = nI n) (hn : n < N) (hN : Nat.ble N 2147483647 = true)
    (k : V S w x M cn (pc + 1) ls st (wL σ a n v)) : V S w x M cn pc ls (.long v :: .int i :: .ref a :: st) σ := by
  have hN' : N < 2147483648 := Nat.lt_succ_of_le (Nat.le_of_ble_eq_true hN)
  refine V_last o hd hk (by rw [hl]; exact vin hi hn hN') ?_
  rw [ixn hi (Nat.lt_trans hn hN')]; exact k
theorem V_aaldSN {a n t : Nat} {i : Int32} (N : Nat) (o : Ok S w x own M) (hd : decode M.2.1 pc = .ok (.aaload, 1)) (hk : S.2.1 a = 12 ∨ S.2.1 a = 13) (hl : S.2.2.1 a = N) (hi : i = nI n) (hn : n < N) (hN : Nat.ble N 2147483647 = true) (ht : trr S σ a n = some t)
    (k : V S w x M cn (pc + 1) ls (.ref t :: st) σ) : V S w x M cn pc ls (.int i :: .ref a :: st) σ := by
  have hN' : N < 2147483648 := Nat.lt_succ_of_le (Nat.le_of_ble_eq_true hN)
  exact V_aaldS o hd hk (by rw [hl]; exact vin hi hn hN') (by rw [ixn hi (Nat.lt_trans hn hN')]; exact ht) k
theorem V_aastN {a n t : Nat} {i : Int32} (N : Nat) (o : Ok S w x own M) (hd : decode M.2.1 pc = .ok (.aastore, 1)) (hk : S.2.1 a = 12) (hl : S.2.2.1 a = N) (hi : i = nI n) (hn : n < N) (hN : Nat.ble N 2147483647 = true) (ht : S.2.1 t = 6)
    (k : V S w x M cn (pc + 1) ls st (wT σ a n (some t))) : V S w x M cn pc ls (.ref t :: .int i :: .ref a :: st) σ := by
  have hN' : N < 2147483648 := Nat.lt_succ_of_le (Nat.le_of_ble_eq_true hN)
  refine V_aast o hd hk (by rw [hl]; exact vin hi hn hN') ht ?_
  rw [ixn hi (Nat.lt_trans hn hN')]; exact k
theorem V_dup2 {u v : Value} (o : Ok S w x own M) (hd : decode M.2.1 pc = .ok (.dup2, 1)) (hu : u.category = 1) (hv : v.category = 1) (k : V S w x M cn (pc + 1) ls (u :: v :: u :: v :: st) σ) : V S w x M cn pc ls (u :: v :: st) σ := fun H locs la h1 h2 h3 => lv_dup2_11 o.2.1.1 o.2.1.2.1 hd ((cvv_cat w u).trans hu) ((cvv_cat w v).trans hv) (k H locs la h1 h2 h3)
theorem V_iincV {i : Nat} {n : Int} {u v : Int32} {ls' : List (Nat × Value)} (o : Ok S w x own M) (hd : decode M.2.1 pc = .ok (.iinc i n, 3)) (hl : ls.lookup i = some (.int u)) (hv : u + Int32.ofInt n = v) (hn : i < M.2.2.1) (hs : st1 ls i (.int v) = ls') (k : V S w x M cn (pc + 3) ls' st σ) : V S w x M cn pc ls st σ := V_iinc o hd hl hn (by rw [hv]; exact hs) k
end NAT
/-- a loop's steps i, i + 1, .. (n of them) -/
def itr {α : Type} (f : Nat → α → α) : Nat → Nat → α → α
  | _, 0, s => s
  | i, n + 1, s => itr f (i + 1) n (f i s)
theorem itr_succ {α : Type} (f : Nat → α → α) (i n : Nat) (s : α) : itr f i (n + 1) s = itr f (i + 1) n (f i s) := rfl
theorem itr_last {α : Type} (f : Nat → α → α) : ∀ (n i : Nat) (s : α), itr f i (n + 1) s = f (i + n) (itr f i n s)
  | 0, i, s => rfl
  | n + 1, i, s => by
    rw [itr_succ, itr_last f n (i + 1) (f i s), itr_succ]
    congr 1
    omega
theorem itr_congr {α : Type} {f g : Nat → α → α} : ∀ (n i : Nat) (s : α), (∀ j s, i ≤ j → j < i + n → f j s = g j s) → itr f i n s = itr g i n s
  | 0, _, _, _ => rfl
  | n + 1, i, s, h => by
    rw [itr_succ, itr_succ, h i s (Nat.le_refl i) (by omega)]
    exact itr_congr n (i + 1) _ (fun j s h1 h2 => h j s (by omega) (by omega))
/-- an invariant of a loop -/
theorem itr_inv {α : Type} {f : Nat → α → α} (P : Nat → α → Prop) : ∀ (n i : Nat) (s : α), P i s → (∀ j s, i ≤ j → j < i + n → P j s → P (j + 1) (f j s)) → P (i + n) (itr f i n s)
  | 0, _, _, h, _ => h
  | n + 1, i, s, h, hs => by
    have h1 := itr_inv P n (i + 1) (f i s) (hs i s (Nat.le_refl i) (by omega) h) (fun j s h1 h2 => hs j s (by omega) (by omega))
    rw [itr_succ, show i + (n + 1) = i + 1 + n by omega]
    exact h1
end
section
/-! THE REFERENCE's DESK as a function of numbers: M j is mem[desk + j] -/
def uM (M : Nat → Int32) (k : Nat) (v : Int32) : Nat → Int32 := fun j => if j = k then v else M j
theorem uM_self (M : Nat → Int32) (k : Nat) (v : Int32) : uM M k v k = v := by simp [uM]
theorem uM_ne (M : Nat → Int32) {k j : Nat} (v : Int32) (h : j ≠ k) : uM M k v j = M j := by simp [uM, h]
def mv (σ : Mm) (d : Nat) : Nat → Int32 := fun j => σ.1 70 (d + j)
def sM (σ : Mm) (d : Nat) (M : Nat → Int32) : Mm := (fun a j => if a = 70 then (if d ≤ j then M (j - d) else σ.1 a j) else σ.1 a j, σ.2)
theorem mv_sM (σ : Mm) (d : Nat) (M : Nat → Int32) : mv (sM σ d M) d = M := by
  funext j
  simp [mv, sM]
theorem sM_mv (σ : Mm) (d : Nat) : sM σ d (mv σ d) = σ := by
  refine Prod.ext (funext fun a => funext fun j => ?_) rfl
  simp only [sM, mv]
  split
  · next h =>
    subst h
    split
    · next h2 => rw [Nat.add_sub_cancel' h2]
    · rfl
  · rfl
theorem sM_sM (σ : Mm) (d : Nat) (M M' : Nat → Int32) : sM (sM σ d M) d M' = sM σ d M' := by
  refine Prod.ext (funext fun a => funext fun j => ?_) rfl
  simp only [sM]
  split
  · split <;> rfl
  · rfl
theorem sM_at (σ : Mm) (d : Nat) (M : Nat → Int32) (n : Nat) : (sM σ d M).1 70 (d + n) = M n := by simp [sM]
theorem wI_sM {σ : Mm} {d : Nat} {M : Nat → Int32} {a j : Nat} {v : Int32} (h : a ≠ 70) : wI (sM σ d M) a j v = sM (wI σ a j v) d M := by
  refine Prod.ext (funext fun b => funext fun i => ?_) rfl
  simp only [sM, wI, up2]
  by_cases hb : b = 70
  · subst hb
    simp [Ne.symm h]
  · simp [hb]
theorem wI_sM67 {σ : Mm} {d : Nat} {M : Nat → Int32} {j : Nat} {v : Int32} : wI (sM σ d M) 67 j v = sM (wI σ 67 j v) d M := wI_sM (by decide)
theorem wI_sM69 {σ : Mm} {d : Nat} {M : Nat → Int32} {j : Nat} {v : Int32} : wI (sM σ d M) 69 j v = sM (wI σ 69 j v) d M := wI_sM (by decide)
theorem wI_sM71 {σ : Mm} {d : Nat} {M : Nat → Int32} {j : Nat} {v : Int32} : wI (sM σ d M) 71 j v = sM (wI σ 71 j v) d M := wI_sM (by decide)
theorem wI_sM72 {σ : Mm} {d : Nat} {M : Nat → Int32} {j : Nat} {v : Int32} : wI (sM σ d M) 72 j v = sM (wI σ 72 j v) d M := wI_sM (by decide)
theorem wI_sM73 {σ : Mm} {d : Nat} {M : Nat → Int32} {j : Nat} {v : Int32} : wI (sM σ d M) 73 j v = sM (wI σ 73 j v) d M := wI_sM (by decide)
theorem wI_sM74 {σ : Mm} {d : Nat} {M : Nat → Int32} {j : Nat} {v : Int32} : wI (sM σ d M) 74 j v = sM (wI σ 74 j v) d M := wI_sM (by decide)
theorem wI_sM75 {σ : Mm} {d : Nat} {M : Nat → Int32} {j : Nat} {v : Int32} : wI (sM σ d M) 75 j v = sM (wI σ 75 j v) d M := wI_sM (by decide)
theorem wI_sM76 {σ : Mm} {d : Nat} {M : Nat → Int32} {j : Nat} {v : Int32} : wI (sM σ d M) 76 j v = sM (wI σ 76 j v) d M := wI_sM (by decide)
theorem wI_sM77 {σ : Mm} {d : Nat} {M : Nat → Int32} {j : Nat} {v : Int32} : wI (sM σ d M) 77 j v = sM (wI σ 77 j v) d M := wI_sM (by decide)
theorem wI_sM78 {σ : Mm} {d : Nat} {M : Nat → Int32} {j : Nat} {v : Int32} : wI (sM σ d M) 78 j v = sM (wI σ 78 j v) d M := wI_sM (by decide)
theorem wL_sM {σ : Mm} {d : Nat} {M : Nat → Int32} {a j : Nat} {v : Int64} : wL (sM σ d M) a j v = sM (wL σ a j v) d M := rfl
theorem wM_sM {σ : Mm} {d : Nat} {M : Nat → Int32} {n : Nat} {v : Int32} : wI (sM σ d M) 70 (d + n) v = sM σ d (uM M n v) := by
  refine Prod.ext (funext fun b => funext fun i => ?_) rfl
  simp only [sM, wI, up2, uM]
  by_cases hb : b = 70
  · subst hb
    by_cases h1 : d ≤ i
    · by_cases h2 : i = d + n
      · subst h2; simp
      · have h3 : ¬ i - d = n := by omega
        simp [h1, h2, h3]
    · have h2 : ¬ i = d + n := by omega
      simp [h1, h2]
  · simp [hb]
/-- SIZES of LEVELS below multiplied -/
def spanM (M : Nat → Int32) (k : Nat) : Int32 := itr (fun i v => v * M (1 + i)) 0 k 1
def lvF (M : Nat → Int32) (far : Int32) : Nat → Nat → Int32
  | 0, _ => -1
  | n + 1, k => if spanM M (k + 1) > far then nI k else lvF M far n (k + 1)
/-- so many LEVELS, of right SIZES -/
def Wf (M : Nat → Int32) (L : Nat) : Prop := M 0 = nI L ∧ 1 ≤ L ∧ L ≤ 4 ∧ ∀ k, k < L → ∃ s : Nat, M (1 + k) = nI s ∧ 2 ≤ s ∧ s ≤ 16
def rmI (a b : Int32) : Int32 := a - a / b * b
def slM (M : Nat → Int32) (lv due : Int32) : Int32 := if lv < 0 then -1 else rmI (due / spanM M (ix lv)) (M (1 + ix lv))
def layM (M : Nat → Int32) (L t : Nat) : Nat → Int32 :=
  uM (uM M (391 + t) (lvF M (M (231 + t) - M 6) L 0)) (407 + t) (slM M (lvF M (M (231 + t) - M 6) L 0) (M (231 + t)))
abbrev isT (M : Nat → Int32) (t : Nat) : Prop := M (215 + t) = 1
abbrev isG (M : Nat → Int32) (t : Nat) : Prop := M (215 + t) = 1 ∧ M (343 + t) = 0
end
section
set_option maxRecDepth 20000 in
set_option maxHeartbeats 4000000 in
theorem c9_thrown {w : Wp} (hf : Fit sh0 w) (σ : Mm) : Cf sh0 w 0 mX9_thrown [.ref 67] σ (some (.int (σ.1 67 0))) σ := by
  refine Ct_of hf (by decide) rfl (Nat.le_of_ble_eq_true rfl) (fun x o rt => ?_)
  refine V_aload_n o dX9_thrown_0 rfl rfl ?_
  refine V_getI o dX9_thrown_1 rfl fl_X9_1 rfl ?_
  refine V_iret o rt dX9_thrown_4 rfl rfl ?_
  exact ⟨rfl, rfl⟩
set_option maxRecDepth 20000 in
set_option maxHeartbeats 4000000 in
theorem c9_flag {w : Wp} (hf : Fit sh0 w) {σ : Mm} {b : Int32} (hb : b = 0 ∨ b = 1) : Cf sh0 w 0 mX9_flag [.int b] σ (some (.int b)) σ := by
  refine Ct_of hf (by decide) rfl (Nat.le_of_ble_eq_true rfl) (fun x o rt => ?_)
  refine V_iload_n o dX9_flag_0 rfl rfl ?_
  refine V_if_eq (tgt := 8) o dX9_flag_1 (by decide) (fun c_1 => ?_) (fun c_1 => ?_)
  · refine V_iconst (v := 0) o dX9_flag_8 (by decide) ?_
    refine V_iret o rt dX9_flag_9 rfl rfl ?_
    exact ⟨by rcases hb with rfl | rfl <;> simp_all, rfl⟩
  · refine V_iconst (v := 1) o dX9_flag_4 (by decide) ?_
    refine V_goto (tgt := 9) o dX9_flag_5 (by decide) ?_
    refine V_iret o rt dX9_flag_9 rfl rfl ?_
    exact ⟨by rcases hb with rfl | rfl <;> simp_all, rfl⟩
set_option maxRecDepth 20000 in
set_option maxHeartbeats 4000000 in
theorem c9_in {w : Wp} (hf : Fit sh0 w) {σ : Mm} {v lo hi : Int64} : Cf sh0 w 0 mX9_in [.long v, .long lo, .long hi] σ (some (.int (bz (lo ≤ v ∧ v ≤ hi)))) σ := by
  refine Ct_of hf (by decide) rfl (Nat.le_of_ble_eq_true rfl) (fun x o rt => ?_)
  refine V_lload_n o dX9_in_0 rfl rfl ?_
  refine V_lload_n o dX9_in_1 rfl rfl ?_
  refine V_lcmp o dX9_in_2 ?_
  refine V_if_lt (tgt := 17) o dX9_in_3 (by decide) (fun c_3 => ?_) (fun c_3 => ?_)
  · refine V_iconst (v := 0) o dX9_in_17 (by decide) ?_
    refine V_iret o rt dX9_in_18 rfl (by first | rfl | exact bz_z) ?_
    refine ⟨?_, rfl⟩
    first | (rw [bz_f (fun h => absurd h.1 (Int64.not_le.mpr ((lg_cmp_lt _ _).mp c_3)))]; done) | (rw [bz_f (fun h => absurd h.2 (Int64.not_le.mpr ((lg_cmp_gt _ _).mp c_10)))]; done) | rw [bz_t ⟨Int64.not_lt.mp (fun z => c_3 ((lg_cmp_lt _ _).mpr z)), Int64.not_lt.mp (fun z => c_10 ((lg_cmp_gt _ _).mpr z))⟩]
  · refine V_lload_n o dX9_in_6 rfl rfl ?_
    refine V_lload o dX9_in_7 rfl ?_
    refine V_lcmp o dX9_in_9 ?_
    refine V_if_gt (tgt := 17) o dX9_in_10 (by decide) (fun c_10 => ?_) (fun c_10 => ?_)
    · refine V_iconst (v := 0) o dX9_in_17 (by decide) ?_
      refine V_iret o rt dX9_in_18 rfl (by first | rfl | exact bz_z) ?_
      refine ⟨?_, rfl⟩
      first | (rw [bz_f (fun h => absurd h.1 (Int64.not_le.mpr ((lg_cmp_lt _ _).mp c_3)))]; done) | (rw [bz_f (fun h => absurd h.2 (Int64.not_le.mpr ((lg_cmp_gt _ _).mp c_10)))]; done) | rw [bz_t ⟨Int64.not_lt.mp (fun z => c_3 ((lg_cmp_lt _ _).mpr z)), Int64.not_lt.mp (fun z => c_10 ((lg_cmp_gt _ _).mpr z))⟩]
    · refine V_iconst (v := 1) o dX9_in_13 (by decide) ?_
      refine V_goto (tgt := 18) o dX9_in_14 (by decide) ?_
      refine V_iret o rt dX9_in_18 rfl (by first | rfl | exact bz_z) ?_
      refine ⟨?_, rfl⟩
      first | (rw [bz_f (fun h => absurd h.1 (Int64.not_le.mpr ((lg_cmp_lt _ _).mp c_3)))]; done) | (rw [bz_f (fun h => absurd h.2 (Int64.not_le.mpr ((lg_cmp_gt _ _).mp c_10)))]; done) | rw [bz_t ⟨Int64.not_lt.mp (fun z => c_3 ((lg_cmp_lt _ _).mpr z)), Int64.not_lt.mp (fun z => c_10 ((lg_cmp_gt _ _).mpr z))⟩]
set_option maxRecDepth 20000 in
set_option maxHeartbeats 4000000 in
theorem c9_of {w : Wp} (hf : Fit sh0 w) {σ : Mm} {d : Nat} {M : Nat → Int32} (hd : σ.1 67 8 = nI d) {k : Int32} {n : Nat} (hk : k = nI n) (hn : d + n < 846) : Cf sh0 w 0 mX9_of [.ref 67, .int k] (sM σ d M) (some (.int (M n))) (sM σ d M) := by
  refine Ct_of hf (by decide) rfl (Nat.le_of_ble_eq_true rfl) (fun x o rt => ?_)
  refine V_aload_n o dX9_of_0 rfl rfl ?_
  refine V_getR (t := 70) o dX9_of_1 rfl fl_X9_49 rfl ?_
  refine V_aload_n o dX9_of_4 rfl rfl ?_
  refine V_getI o dX9_of_5 rfl fl_X9_80 rfl ?_
  refine V_iload_n o dX9_of_8 rfl rfl ?_
  refine V_iadd o dX9_of_9 ?_
  refine V_ialdN 846 o dX9_of_10 rfl rfl (nadd hd hk) (by omega) rfl ?_
  refine V_iret o rt dX9_of_11 rfl rfl ?_
  exact ⟨by rw [sM_at], rfl⟩
set_option maxRecDepth 20000 in
set_option maxHeartbeats 4000000 in
theorem c9_puts {w : Wp} (hf : Fit sh0 w) {σ : Mm} {d : Nat} {M : Nat → Int32} (hd : σ.1 67 8 = nI d) {k v : Int32} {n : Nat} (hk : k = nI n) (hn : d + n < 846) : Cf sh0 w 0 mX9_puts [.ref 67, .int k, .int v] (sM σ d M) none (sM σ d (uM M n v)) := by
  refine Ct_of hf (by decide) rfl (Nat.le_of_ble_eq_true rfl) (fun x o rt => ?_)
  refine V_aload_n o dX9_puts_0 rfl rfl ?_
  refine V_getR (t := 70) o dX9_puts_1 rfl fl_X9_49 rfl ?_
  refine V_aload_n o dX9_puts_4 rfl rfl ?_
  refine V_getI o dX9_puts_5 rfl fl_X9_80 rfl ?_
  refine V_iload_n o dX9_puts_8 rfl rfl ?_
  refine V_iadd o dX9_puts_9 ?_
  refine V_iload_n o dX9_puts_10 rfl rfl ?_
  refine V_iastN 846 o dX9_puts_11 rfl rfl (nadd hd hk) (by omega) rfl ?_
  refine V_ret o rt dX9_puts_12 rfl ?_
  exact ⟨rfl, wM_sM⟩
set_option maxRecDepth 20000 in
set_option maxHeartbeats 4000000 in
theorem c9_more {w : Wp} (hf : Fit sh0 w) {σ : Mm} {d : Nat} {M : Nat → Int32} (hd : σ.1 67 8 = nI d) {k v : Int32} {n : Nat} (hk : k = nI n) (hn : d + n < 846) : Cf sh0 w 0 mX9_more [.ref 67, .int k, .int v] (sM σ d M) none (sM σ d (uM M n (M n + v))) := by
  refine Ct_of hf (by decide) rfl (Nat.le_of_ble_eq_true rfl) (fun x o rt => ?_)
  refine V_aload_n o dX9_more_0 rfl rfl ?_
  refine V_getR (t := 70) o dX9_more_1 rfl fl_X9_49 rfl ?_
  refine V_aload_n o dX9_more_4 rfl rfl ?_
  refine V_getI o dX9_more_5 rfl fl_X9_80 rfl ?_
  refine V_iload_n o dX9_more_8 rfl rfl ?_
  refine V_iadd o dX9_more_9 ?_
  refine V_dup2 o dX9_more_10 rfl rfl ?_
  refine V_ialdN 846 o dX9_more_11 rfl rfl (nadd hd hk) (by omega) rfl ?_
  rw [sM_at]
  refine V_iload_n o dX9_more_12 rfl rfl ?_
  refine V_iadd o dX9_more_13 ?_
  refine V_iastN 846 o dX9_more_14 rfl rfl (nadd hd hk) (by omega) rfl ?_
  refine V_ret o rt dX9_more_15 rfl ?_
  exact ⟨rfl, wM_sM⟩
theorem in_out {k : Int32} (h : ¬ (0 ≤ k ∧ k ≤ 15)) : ¬ ((0 : Int64) ≤ k.toInt64 ∧ k.toInt64 ≤ 15) := by
  intro q
  apply h
  obtain ⟨q1, q2⟩ := q
  rw [Int64.le_iff_toInt_le, Int32.toInt_toInt64] at q1 q2
  exact ⟨Int32.le_iff_toInt_le.mpr q1, Int32.le_iff_toInt_le.mpr q2⟩
theorem in_lo {k lo hi : Int32} {l h : Int64} (hl : l = lo.toInt64) (hh : h = hi.toInt64) : (l ≤ k.toInt64 ∧ k.toInt64 ≤ h) ↔ (lo ≤ k ∧ k ≤ hi) := by
  subst hl; subst hh
  rw [Int64.le_iff_toInt_le, Int64.le_iff_toInt_le, Int32.toInt_toInt64, Int32.toInt_toInt64, Int32.toInt_toInt64, Int32.le_iff_toInt_le, Int32.le_iff_toInt_le]
theorem bz_congr {p q : Prop} [Decidable p] [Decidable q] (h : p ↔ q) : bz p = bz q := by
  unfold bz
  by_cases hq : q
  · rw [if_pos hq, if_pos (h.mpr hq)]
  · rw [if_neg hq, if_neg (fun z => hq (h.mp z))]
theorem nI_rng {i N : Nat} (h : i ≤ N) (hN : N < 2147483648) : (0 : Int32) ≤ nI i ∧ nI i ≤ nI N := ⟨nI_pos' (by omega), nI_le h hN⟩
set_option maxRecDepth 20000 in
set_option maxHeartbeats 4000000 in
theorem c9_isTimer {w : Wp} (hf : Fit sh0 w) {σ : Mm} {d : Nat} {M : Nat → Int32} (hd : σ.1 67 8 = nI d) (hd4 : d ≤ 423) {k : Int32} {i : Nat} (hk : k = nI i) (hi : i < 16) : Cf sh0 w 1 mX9_isTimer [.ref 67, .int k] (sM σ d M) (some (.int (bz (isT M i)))) (sM σ d M) := by
  refine Ct_of hf (by decide) rfl (Nat.le_of_ble_eq_true rfl) (fun x o rt => ?_)
  refine V_iload_n o dX9_isTimer_0 rfl rfl ?_
  refine V_i2l o dX9_isTimer_1 ?_
  refine V_lconst (v := 0) o dX9_isTimer_2 (by decide) ?_
  refine V_ldc2 o dX9_isTimer_3 kc_X9_83 ?_
  refine V_cSi o rt dX9_isTimer_6 ms_X9_21 (c9_in hf) rfl rfl (Nat.le_of_ble_eq_true rfl) rfl ?_
  refine V_if_eq (tgt := 29) o dX9_isTimer_9 (by decide) (fun c_9 => False.elim (absurd ((bz_0.mp c_9)) (fun h => h ((in_lo (lo := 0) (hi := 15) (by decide) (by decide)).mpr (by rw [hk]; exact nI_rng (N := 15) (by omega) (by omega)))))) (fun c_9 => ?_)
  refine V_aload_n o dX9_isTimer_12 rfl rfl ?_
  refine V_sipush (v := 215) o dX9_isTimer_13 (by decide) ?_
  refine V_iload_n o dX9_isTimer_16 rfl rfl ?_
  refine V_iadd o dX9_isTimer_17 ?_
  refine V_cVi o rt dX9_isTimer_18 ml_X9_85 (c9_of hf hd (nadd (show (215 : Int32) = nI 215 from rfl) hk) (by omega)) rfl rfl rfl (Nat.le_of_ble_eq_true rfl) rfl ?_
  refine V_iconst (v := 1) o dX9_isTimer_21 (by decide) ?_
  refine V_icmp_ne (tgt := 29) o dX9_isTimer_22 (by decide) (fun c_22 => ?_) (fun c_22 => ?_)
  · refine V_iconst (v := 0) o dX9_isTimer_29 (by decide) ?_
    refine V_iret o rt dX9_isTimer_30 rfl (by first | rfl | exact bz_z) ?_
    refine ⟨?_, rfl⟩
    first | (rw [bz_t (show isT M i from c_22)]; done) | (rw [bz_f (show ¬ isT M i from c_22)]; done)
  · refine V_iconst (v := 1) o dX9_isTimer_25 (by decide) ?_
    refine V_goto (tgt := 30) o dX9_isTimer_26 (by decide) ?_
    refine V_iret o rt dX9_isTimer_30 rfl (by first | rfl | exact bz_z) ?_
    refine ⟨?_, rfl⟩
    first | (rw [bz_t (show isT M i from c_22)]; done) | (rw [bz_f (show ¬ isT M i from c_22)]; done)
set_option maxRecDepth 20000 in
set_option maxHeartbeats 4000000 in
theorem c9_isTimer_out {w : Wp} (hf : Fit sh0 w) {σ : Mm} {d : Nat} {M : Nat → Int32} (hd : σ.1 67 8 = nI d) (hd4 : d ≤ 423) {k : Int32} (hk : ¬ (0 ≤ k ∧ k ≤ 15)) : Cf sh0 w 1 mX9_isTimer [.ref 67, .int k] (sM σ d M) (some (.int 0)) (sM σ d M) := by
  refine Ct_of hf (by decide) rfl (Nat.le_of_ble_eq_true rfl) (fun x o rt => ?_)
  refine V_iload_n o dX9_isTimer_0 rfl rfl ?_
  refine V_i2l o dX9_isTimer_1 ?_
  refine V_lconst (v := 0) o dX9_isTimer_2 (by decide) ?_
  refine V_ldc2 o dX9_isTimer_3 kc_X9_83 ?_
  refine V_cSi o rt dX9_isTimer_6 ms_X9_21 (c9_in hf) rfl rfl (Nat.le_of_ble_eq_true rfl) rfl ?_
  refine V_if_eq (tgt := 29) o dX9_isTimer_9 (by decide) (fun c_9 => ?_) (fun c_9 => False.elim (absurd (bz_n0.mp c_9) (in_out hk)))
  refine V_iconst (v := 0) o dX9_isTimer_29 (by decide) ?_
  refine V_iret o rt dX9_isTimer_30 rfl (by first | rfl | exact bz_z) ?_
  exact ⟨rfl, rfl⟩
set_option maxRecDepth 20000 in
set_option maxHeartbeats 4000000 in
theorem c9_goes {w : Wp} (hf : Fit sh0 w) {σ : Mm} {d : Nat} {M : Nat → Int32} (hd : σ.1 67 8 = nI d) (hd4 : d ≤ 423) {k : Int32} {i : Nat} (hk : k = nI i) (hi : i < 16) : Cf sh0 w 2 mX9_goes [.ref 67, .int k] (sM σ d M) (some (.int (bz (isG M i)))) (sM σ d M) := by
  refine Ct_of hf (by decide) rfl (Nat.le_of_ble_eq_true rfl) (fun x o rt => ?_)
  refine V_aload_n o dX9_goes_0 rfl rfl ?_
  refine V_iload_n o dX9_goes_1 rfl rfl ?_
  refine V_cVi o rt dX9_goes_2 ml_X9_89 (c9_isTimer hf hd hd4 hk hi) rfl rfl rfl (Nat.le_of_ble_eq_true rfl) rfl ?_
  refine V_if_eq (tgt := 24) o dX9_goes_5 (by decide) (fun c_5 => ?_) (fun c_5 => ?_)
  · refine V_iconst (v := 0) o dX9_goes_24 (by decide) ?_
    refine V_iret o rt dX9_goes_25 rfl (by first | rfl | exact bz_z) ?_
    refine ⟨?_, rfl⟩
    first | (rw [bz_f (show ¬ isG M i from fun h => bz_0.mp c_5 h.1)]; done) | (rw [bz_f (show ¬ isG M i from fun h => c_17 h.2)]; done) | (rw [bz_t (show isG M i from ⟨bz_n0.mp c_5, c_17⟩)]; done)
  · refine V_aload_n o dX9_goes_8 rfl rfl ?_
    refine V_sipush (v := 343) o dX9_goes_9 (by decide) ?_
    refine V_iload_n o dX9_goes_12 rfl rfl ?_
    refine V_iadd o dX9_goes_13 ?_
    refine V_cVi o rt dX9_goes_14 ml_X9_85 (c9_of hf hd (nadd (show (343 : Int32) = nI 343 from rfl) hk) (by omega)) rfl rfl rfl (Nat.le_of_ble_eq_true rfl) rfl ?_
    refine V_if_ne (tgt := 24) o dX9_goes_17 (by decide) (fun c_17 => ?_) (fun c_17 => ?_)
    · refine V_iconst (v := 0) o dX9_goes_24 (by decide) ?_
      refine V_iret o rt dX9_goes_25 rfl (by first | rfl | exact bz_z) ?_
      refine ⟨?_, rfl⟩
      first | (rw [bz_f (show ¬ isG M i from fun h => bz_0.mp c_5 h.1)]; done) | (rw [bz_f (show ¬ isG M i from fun h => c_17 h.2)]; done) | (rw [bz_t (show isG M i from ⟨bz_n0.mp c_5, c_17⟩)]; done)
    · refine V_iconst (v := 1) o dX9_goes_20 (by decide) ?_
      refine V_goto (tgt := 25) o dX9_goes_21 (by decide) ?_
      refine V_iret o rt dX9_goes_25 rfl (by first | rfl | exact bz_z) ?_
      refine ⟨?_, rfl⟩
      first | (rw [bz_f (show ¬ isG M i from fun h => bz_0.mp c_5 h.1)]; done) | (rw [bz_f (show ¬ isG M i from fun h => c_17 h.2)]; done) | (rw [bz_t (show isG M i from ⟨bz_n0.mp c_5, c_17⟩)]; done)
set_option maxRecDepth 20000 in
set_option maxHeartbeats 4000000 in
theorem c9_goes_out {w : Wp} (hf : Fit sh0 w) {σ : Mm} {d : Nat} {M : Nat → Int32} (hd : σ.1 67 8 = nI d) (hd4 : d ≤ 423) {k : Int32} (hk : ¬ (0 ≤ k ∧ k ≤ 15)) : Cf sh0 w 2 mX9_goes [.ref 67, .int k] (sM σ d M) (some (.int 0)) (sM σ d M) := by
  refine Ct_of hf (by decide) rfl (Nat.le_of_ble_eq_true rfl) (fun x o rt => ?_)
  refine V_aload_n o dX9_goes_0 rfl rfl ?_
  refine V_iload_n o dX9_goes_1 rfl rfl ?_
  refine V_cVi o rt dX9_goes_2 ml_X9_89 (c9_isTimer_out hf hd hd4 hk) rfl rfl rfl (Nat.le_of_ble_eq_true rfl) rfl ?_
  refine V_if_eq (tgt := 24) o dX9_goes_5 (by decide) (fun c_5 => ?_) (fun c_5 => False.elim (c_5 rfl))
  refine V_iconst (v := 0) o dX9_goes_24 (by decide) ?_
  refine V_iret o rt dX9_goes_25 rfl (by first | rfl | exact bz_z) ?_
  exact ⟨rfl, rfl⟩
set_option maxRecDepth 20000 in
set_option maxHeartbeats 4000000 in
theorem c9_span {w : Wp} (hf : Fit sh0 w) {σ : Mm} {d : Nat} {M : Nat → Int32} (hd : σ.1 67 8 = nI d) (hd4 : d ≤ 423) {k : Int32} {m : Nat} (hk : k = nI m) (hm : m ≤ 4) : Cf sh0 w 1 mX9_span [.ref 67, .int k] (sM σ d M) (some (.int (spanM M m))) (sM σ d M) := by
  refine Ct_of hf (by decide) rfl (Nat.le_of_ble_eq_true rfl) (fun x o rt => ?_)
  subst hk
  have loop : ∀ n i v, i + n = m → itr (fun i v => v * M (1 + i)) i n v = spanM M m → V sh0 w x mX9_span (0, 0) 4 [(3, .int (nI i)), (2, .int v), (0, .ref 67), (1, .int (nI m))] [] (sM σ d M) := by
    intro n
    induction n with
    | zero =>
      intro i v hin hR
      have hi : i = m := by omega
      refine V_iload_n o dX9_span_4 rfl rfl ?_
      refine V_iload_n o dX9_span_5 rfl rfl ?_
      refine V_icmp_ge (tgt := 25) o dX9_span_6 (by decide) (fun c_6 => ?_) (fun c_6 => False.elim (c_6 (by rw [hi]; exact Int32.le_refl _)))
      refine V_iload_n o dX9_span_25 rfl rfl ?_
      refine V_iret o rt dX9_span_26 rfl rfl ?_
      exact ⟨by rw [← hR]; rfl, rfl⟩
    | succ n ih =>
      intro i v hin hR
      refine V_iload_n o dX9_span_4 rfl rfl ?_
      refine V_iload_n o dX9_span_5 rfl rfl ?_
      refine V_icmp_ge (tgt := 25) o dX9_span_6 (by decide) (fun c_6 => False.elim (absurd c_6 (nI_ge (by omega) (by omega)))) (fun c_6 => ?_)
      refine V_iload_n o dX9_span_9 rfl rfl ?_
      refine V_aload_n o dX9_span_10 rfl rfl ?_
      refine V_iconst (v := 1) o dX9_span_11 (by decide) ?_
      refine V_iload_n o dX9_span_12 rfl rfl ?_
      refine V_iadd o dX9_span_13 ?_
      refine V_cVi o rt dX9_span_14 ml_X9_85 (c9_of hf hd (nadd (show (1 : Int32) = nI 1 from rfl) rfl) (by omega)) rfl rfl rfl (Nat.le_of_ble_eq_true rfl) rfl ?_
      refine V_imul o dX9_span_17 ?_
      refine V_istore_n (ls' := [(2, _), (3, _), (0, _), (1, _)]) o dX9_span_18 rfl (by decide) rfl ?_
      refine V_iincV (v := nI (i + 1)) (ls' := [(3, _), (2, _), (0, _), (1, _)]) o dX9_span_19 rfl (ninc 1 rfl) (by decide) rfl ?_
      refine V_goto (tgt := 4) o dX9_span_22 (by decide) ?_
      exact ih (i + 1) _ (by omega) hR
  refine V_iconst (v := 1) o dX9_span_0 (by decide) ?_
  refine V_istore_n (ls' := [(2, _), (0, _), (1, _)]) o dX9_span_1 rfl (by decide) rfl ?_
  refine V_iconst (v := 0) o dX9_span_2 (by decide) ?_
  refine V_istore_n (ls' := [(3, _), (2, _), (0, _), (1, _)]) o dX9_span_3 rfl (by decide) rfl ?_
  exact loop m 0 1 (by omega) rfl
set_option maxRecDepth 20000 in
set_option maxHeartbeats 4000000 in
theorem c9_whole {w : Wp} (hf : Fit sh0 w) {σ : Mm} {d : Nat} {M : Nat → Int32} (hd : σ.1 67 8 = nI d) (hd4 : d ≤ 423) {L : Nat} (hW : Wf M L) : Cf sh0 w 2 mX9_whole [.ref 67] (sM σ d M) (some (.int (spanM M L))) (sM σ d M) := by
  refine Ct_of hf (by decide) rfl (Nat.le_of_ble_eq_true rfl) (fun x o rt => ?_)
  refine V_aload_n o dX9_whole_0 rfl rfl ?_
  refine V_aload_n o dX9_whole_1 rfl rfl ?_
  refine V_iconst (v := 0) o dX9_whole_2 (by decide) ?_
  refine V_cVi o rt dX9_whole_3 ml_X9_85 (c9_of hf hd (show (0 : Int32) = nI 0 from rfl) (by omega)) rfl rfl rfl (Nat.le_of_ble_eq_true rfl) rfl ?_
  refine V_cVi o rt dX9_whole_6 ml_X9_93 (c9_span hf hd hd4 hW.1 hW.2.2.1) rfl rfl rfl (Nat.le_of_ble_eq_true rfl) rfl ?_
  refine V_iret o rt dX9_whole_9 rfl rfl ?_
  exact ⟨rfl, rfl⟩
set_option maxRecDepth 20000 in
set_option maxHeartbeats 4000000 in
theorem c9_levelFor {w : Wp} (hf : Fit sh0 w) {σ : Mm} {d : Nat} {M : Nat → Int32} (hd : σ.1 67 8 = nI d) (hd4 : d ≤ 423) {L : Nat} (hW : Wf M L) {far : Int32} : Cf sh0 w 2 mX9_levelFor [.ref 67, .int far] (sM σ d M) (some (.int (lvF M far L 0))) (sM σ d M) := by
  refine Ct_of hf (by decide) rfl (Nat.le_of_ble_eq_true rfl) (fun x o rt => ?_)
  have hL4 := hW.2.2.1
  have loop : ∀ n i, i + n = L → lvF M far n i = lvF M far L 0 → V sh0 w x mX9_levelFor (0, 0) 2 [(2, .int (nI i)), (0, .ref 67), (1, .int far)] [] (sM σ d M) := by
    intro n
    induction n with
    | zero =>
      intro i hin hR
      refine V_iload_n o dX9_levelFor_2 rfl rfl ?_
      refine V_aload_n o dX9_levelFor_3 rfl rfl ?_
      refine V_iconst (v := 0) o dX9_levelFor_4 (by decide) ?_
      refine V_cVi o rt dX9_levelFor_5 ml_X9_85 (c9_of hf hd (show (0 : Int32) = nI 0 from rfl) (by omega)) rfl rfl rfl (Nat.le_of_ble_eq_true rfl) rfl ?_
      refine V_icmp_ge (tgt := 30) o dX9_levelFor_8 (by decide) (fun c_8 => ?_) (fun c_8 => False.elim (c_8 (by rw [hW.1]; exact nI_le (by omega) (by omega))))
      refine V_iconst (v := -1) o dX9_levelFor_30 (by decide) ?_
      refine V_iret o rt dX9_levelFor_31 rfl rfl ?_
      exact ⟨by rw [← hR]; rfl, rfl⟩
    | succ n ih =>
      intro i hin hR
      rw [lvF] at hR
      refine V_iload_n o dX9_levelFor_2 rfl rfl ?_
      refine V_aload_n o dX9_levelFor_3 rfl rfl ?_
      refine V_iconst (v := 0) o dX9_levelFor_4 (by decide) ?_
      refine V_cVi o rt dX9_levelFor_5 ml_X9_85 (c9_of hf hd (show (0 : Int32) = nI 0 from rfl) (by omega)) rfl rfl rfl (Nat.le_of_ble_eq_true rfl) rfl ?_
      refine V_icmp_ge (tgt := 30) o dX9_levelFor_8 (by decide) (fun c_8 => False.elim (absurd c_8 (by rw [hW.1]; exact nI_ge (by omega) (by omega)))) (fun c_8 => ?_)
      refine V_aload_n o dX9_levelFor_11 rfl rfl ?_
      refine V_iload_n o dX9_levelFor_12 rfl rfl ?_
      refine V_iconst (v := 1) o dX9_levelFor_13 (by decide) ?_
      refine V_iadd o dX9_levelFor_14 ?_
      refine V_cVi o rt dX9_levelFor_15 ml_X9_93 (c9_span hf hd hd4 (nadd rfl (show (1 : Int32) = nI 1 from rfl)) (by omega)) rfl rfl rfl (Nat.le_of_ble_eq_true rfl) rfl ?_
      refine V_iload_n o dX9_levelFor_18 rfl rfl ?_
      refine V_icmp_le (tgt := 24) o dX9_levelFor_19 (by decide) (fun c_19 => ?_) (fun c_19 => ?_)
      · refine V_iincV (v := nI (i + 1)) (ls' := [(2, _), (0, _), (1, _)]) o dX9_levelFor_24 rfl (ninc 1 rfl) (by decide) rfl ?_
        refine V_goto (tgt := 2) o dX9_levelFor_27 (by decide) ?_
        exact ih (i + 1) (by omega) (by rw [if_neg (Int32.not_lt.mpr c_19)] at hR; exact hR)
      · refine V_iload_n o dX9_levelFor_22 rfl rfl ?_
        refine V_iret o rt dX9_levelFor_23 rfl rfl ?_
        exact ⟨by rw [← hR, if_pos (Int32.not_le.mp c_19)], rfl⟩
  refine V_iconst (v := 0) o dX9_levelFor_0 (by decide) ?_
  refine V_istore_n (ls' := [(2, _), (0, _), (1, _)]) o dX9_levelFor_1 rfl (by decide) rfl ?_
  exact loop L 0 (by omega) rfl
theorem Wf_span {M : Nat → Int32} {L : Nat} (h : Wf M L) : ∀ k, k ≤ L → ∃ s : Nat, spanM M k = nI s ∧ 1 ≤ s ∧ s ≤ 16 ^ k := by
  intro k
  induction k with
  | zero => intro _; exact ⟨1, rfl, by omega, by simp⟩
  | succ k ih =>
    intro hk
    obtain ⟨s, e, h1, h2⟩ := ih (by omega)
    obtain ⟨t, e2, g1, g2⟩ := h.2.2.2 k (by omega)
    refine ⟨s * t, ?_, ?_, ?_⟩
    · unfold spanM at e ⊢
      rw [itr_last, e, Nat.zero_add, e2]
      exact (nmul rfl rfl)
    · exact Nat.le_trans (by omega) (Nat.mul_le_mul h1 g1)
    · rw [Nat.pow_succ]
      exact Nat.mul_le_mul h2 g2
theorem pow16 {k : Nat} (h : k ≤ 4) : 16 ^ k ≤ 65536 := by
  have : k = 0 ∨ k = 1 ∨ k = 2 ∨ k = 3 ∨ k = 4 := by omega
  rcases this with rfl | rfl | rfl | rfl | rfl <;> decide
theorem Wf_span0 {M : Nat → Int32} {L : Nat} (h : Wf M L) {k : Nat} (hk : k ≤ L) : ¬ spanM M k = 0 := by
  obtain ⟨s, e, h1, h2⟩ := Wf_span h k hk
  rw [e]
  have := pow16 (Nat.le_trans hk h.2.2.1)
  exact nI_ne0 (by omega) (by omega)
theorem Wf_size0 {M : Nat → Int32} {L : Nat} (h : Wf M L) {k : Nat} (hk : k < L) : ¬ M (1 + k) = 0 := by
  obtain ⟨t, e2, g1, g2⟩ := h.2.2.2 k hk
  rw [e2]
  exact nI_ne0 (by omega) (by omega)
/-- the level found: none, or one there is -/
theorem lvF_cases (M : Nat → Int32) (far : Int32) : ∀ n k, lvF M far n k = -1 ∨ ∃ j, k ≤ j ∧ j < k + n ∧ lvF M far n k = nI j
  | 0, k => Or.inl rfl
  | n + 1, k => by
    unfold lvF
    split
    · exact Or.inr ⟨k, Nat.le_refl k, by omega, rfl⟩
    · rcases lvF_cases M far n (k + 1) with h | ⟨j, h1, h2, h3⟩
      · exact Or.inl h
      · exact Or.inr ⟨j, by omega, by omega, h3⟩
theorem ix_nI {n : Nat} (h : n < 2147483648) : ix (nI n) = n := nI_clamp h
theorem Wf_uM {M : Nat → Int32} {L k : Nat} {v : Int32} (h : Wf M L) (hk : 5 ≤ k) : Wf (uM M k v) L := by
  obtain ⟨h1, h2, h3, h4⟩ := h
  refine ⟨by rw [uM_ne _ _ (by omega)]; exact h1, h2, h3, fun j hj => ?_⟩
  rw [uM_ne _ _ (by omega)]
  exact h4 j hj
theorem spanM_congr {M M' : Nat → Int32} {k : Nat} (hk : k ≤ 4) (h : ∀ j, j < 5 → M' j = M j) : spanM M' k = spanM M k := by
  unfold spanM
  exact itr_congr _ _ _ (fun j s h1 h2 => by rw [h (1 + j) (by omega)])
theorem spanM_uM {M : Nat → Int32} {k n : Nat} {v : Int32} (hk : k ≤ 4) (hn : 5 ≤ n) : spanM (uM M n v) k = spanM M k := spanM_congr hk (fun j hj => uM_ne _ _ (by omega))
set_option maxRecDepth 20000 in
set_option maxHeartbeats 4000000 in
theorem c9_lays {w : Wp} (hf : Fit sh0 w) {σ : Mm} {d : Nat} {M : Nat → Int32} (hd : σ.1 67 8 = nI d) (hd4 : d ≤ 423) {L : Nat} (hW : Wf M L) {k : Int32} {i : Nat} (hk : k = nI i) (hi : i < 16) : Cf sh0 w 3 mX9_lays [.ref 67, .int k] (sM σ d M) none (sM σ d (layM M L i)) := by
  refine Ct_of hf (by decide) rfl (Nat.le_of_ble_eq_true rfl) (fun x o rt => ?_)
  subst hk
  have hL4 := hW.2.2.1
  rcases lvF_cases M (M (231 + i) - M 6) L 0 with hlv | ⟨j, -, hj, hlv⟩
  · refine V_aload_n o dX9_lays_0 rfl rfl ?_
    refine V_aload_n o dX9_lays_1 rfl rfl ?_
    refine V_sipush (v := 231) o dX9_lays_2 (by decide) ?_
    refine V_iload_n o dX9_lays_5 rfl rfl ?_
    refine V_iadd o dX9_lays_6 ?_
    refine V_cVi o rt dX9_lays_7 ml_X9_85 (c9_of hf hd (nadd (show (231 : Int32) = nI 231 from rfl) rfl) (by omega)) rfl rfl rfl (Nat.le_of_ble_eq_true rfl) rfl ?_
    refine V_aload_n o dX9_lays_10 rfl rfl ?_
    refine V_bipush (v := 6) o dX9_lays_11 (by decide) ?_
    refine V_cVi o rt dX9_lays_13 ml_X9_85 (c9_of hf hd (show (6 : Int32) = nI 6 from rfl) (by omega)) rfl rfl rfl (Nat.le_of_ble_eq_true rfl) rfl ?_
    refine V_isub o dX9_lays_16 ?_
    refine V_cVi o rt dX9_lays_17 ml_X9_96 (c9_levelFor hf hd hd4 hW) rfl rfl rfl (Nat.le_of_ble_eq_true rfl) rfl ?_
    refine V_istore_n (ls' := [(2, _), (0, _), (1, _)]) o dX9_lays_20 rfl (by decide) rfl ?_
    refine V_aload_n o dX9_lays_21 rfl rfl ?_
    refine V_sipush (v := 391) o dX9_lays_22 (by decide) ?_
    refine V_iload_n o dX9_lays_25 rfl rfl ?_
    refine V_iadd o dX9_lays_26 ?_
    refine V_iload_n o dX9_lays_27 rfl rfl ?_
    refine V_cVv o rt dX9_lays_28 ml_X9_76 (c9_puts hf hd (nadd (show (391 : Int32) = nI 391 from rfl) rfl) (by omega)) rfl rfl rfl (Nat.le_of_ble_eq_true rfl) rfl ?_
    refine V_aload_n o dX9_lays_31 rfl rfl ?_
    refine V_sipush (v := 407) o dX9_lays_32 (by decide) ?_
    refine V_iload_n o dX9_lays_35 rfl rfl ?_
    refine V_iadd o dX9_lays_36 ?_
    refine V_iload_n o dX9_lays_37 rfl rfl ?_
    refine V_if_ge (tgt := 45) o dX9_lays_38 (by decide) (fun c_38 => False.elim (absurd c_38 (by rw [hlv]; decide))) (fun c_38 => ?_)
    refine V_iconst (v := -1) o dX9_lays_41 (by decide) ?_
    refine V_goto (tgt := 68) o dX9_lays_42 (by decide) ?_
    refine V_cVv o rt dX9_lays_68 ml_X9_76 (c9_puts hf hd (nadd (show (407 : Int32) = nI 407 from rfl) rfl) (by omega)) rfl rfl rfl (Nat.le_of_ble_eq_true rfl) rfl ?_
    refine V_ret o rt dX9_lays_71 rfl ?_
    exact ⟨rfl, by rw [layM, hlv]; rfl⟩
  · refine V_aload_n o dX9_lays_0 rfl rfl ?_
    refine V_aload_n o dX9_lays_1 rfl rfl ?_
    refine V_sipush (v := 231) o dX9_lays_2 (by decide) ?_
    refine V_iload_n o dX9_lays_5 rfl rfl ?_
    refine V_iadd o dX9_lays_6 ?_
    refine V_cVi o rt dX9_lays_7 ml_X9_85 (c9_of hf hd (nadd (show (231 : Int32) = nI 231 from rfl) rfl) (by omega)) rfl rfl rfl (Nat.le_of_ble_eq_true rfl) rfl ?_
    refine V_aload_n o dX9_lays_10 rfl rfl ?_
    refine V_bipush (v := 6) o dX9_lays_11 (by decide) ?_
    refine V_cVi o rt dX9_lays_13 ml_X9_85 (c9_of hf hd (show (6 : Int32) = nI 6 from rfl) (by omega)) rfl rfl rfl (Nat.le_of_ble_eq_true rfl) rfl ?_
    refine V_isub o dX9_lays_16 ?_
    refine V_cVi o rt dX9_lays_17 ml_X9_96 (c9_levelFor hf hd hd4 hW) rfl rfl rfl (Nat.le_of_ble_eq_true rfl) rfl ?_
    refine V_istore_n (ls' := [(2, _), (0, _), (1, _)]) o dX9_lays_20 rfl (by decide) rfl ?_
    refine V_aload_n o dX9_lays_21 rfl rfl ?_
    refine V_sipush (v := 391) o dX9_lays_22 (by decide) ?_
    refine V_iload_n o dX9_lays_25 rfl rfl ?_
    refine V_iadd o dX9_lays_26 ?_
    refine V_iload_n o dX9_lays_27 rfl rfl ?_
    refine V_cVv o rt dX9_lays_28 ml_X9_76 (c9_puts hf hd (nadd (show (391 : Int32) = nI 391 from rfl) rfl) (by omega)) rfl rfl rfl (Nat.le_of_ble_eq_true rfl) rfl ?_
    refine V_aload_n o dX9_lays_31 rfl rfl ?_
    refine V_sipush (v := 407) o dX9_lays_32 (by decide) ?_
    refine V_iload_n o dX9_lays_35 rfl rfl ?_
    refine V_iadd o dX9_lays_36 ?_
    refine V_iload_n o dX9_lays_37 rfl rfl ?_
    refine V_if_ge (tgt := 45) o dX9_lays_38 (by decide) (fun c_38 => ?_) (fun c_38 => False.elim (c_38 (by rw [hlv]; exact nI_pos' (by omega))))
    refine V_aload_n o dX9_lays_45 rfl rfl ?_
    refine V_sipush (v := 231) o dX9_lays_46 (by decide) ?_
    refine V_iload_n o dX9_lays_49 rfl rfl ?_
    refine V_iadd o dX9_lays_50 ?_
    refine V_cVi o rt dX9_lays_51 ml_X9_85 (c9_of hf hd (nadd (show (231 : Int32) = nI 231 from rfl) rfl) (by omega)) rfl rfl rfl (Nat.le_of_ble_eq_true rfl) rfl ?_
    refine V_aload_n o dX9_lays_54 rfl rfl ?_
    refine V_iload_n o dX9_lays_55 rfl rfl ?_
    refine V_cVi o rt dX9_lays_56 ml_X9_93 (c9_span hf hd hd4 hlv (by omega)) rfl rfl rfl (Nat.le_of_ble_eq_true rfl) rfl ?_
    refine V_idiv o dX9_lays_59 (by rw [spanM_uM (by omega) (by omega)]; exact Wf_span0 hW (by omega)) ?_
    refine V_aload_n o dX9_lays_60 rfl rfl ?_
    refine V_iconst (v := 1) o dX9_lays_61 (by decide) ?_
    refine V_iload_n o dX9_lays_62 rfl rfl ?_
    refine V_iadd o dX9_lays_63 ?_
    refine V_cVi o rt dX9_lays_64 ml_X9_85 (c9_of hf hd (nadd (show (1 : Int32) = nI 1 from rfl) hlv) (by omega)) rfl rfl rfl (Nat.le_of_ble_eq_true rfl) rfl ?_
    refine V_irem o dX9_lays_67 (by rw [uM_ne _ _ (by omega)]; exact Wf_size0 hW (by omega)) ?_
    refine V_cVv o rt dX9_lays_68 ml_X9_76 (c9_puts hf hd (nadd (show (407 : Int32) = nI 407 from rfl) rfl) (by omega)) rfl rfl rfl (Nat.le_of_ble_eq_true rfl) rfl ?_
    refine V_ret o rt dX9_lays_71 rfl ?_
    exact ⟨rfl, by rw [layM, slM, if_neg (by rw [hlv]; exact nI_pos (by omega)), hlv, ix_nI (by omega), spanM_uM (by omega) (by omega), uM_ne (j := 231 + i) _ _ (by omega), uM_ne (j := 1 + j) _ _ (by omega)]; rfl⟩
end
section
/-! who comes ahead of whom; the line -/
def aheadB (M : Nat → Int32) (a b : Nat) : Bool :=
  if M 5 = 0 then decide (M (247 + a) < M (247 + b))
  else if M 5 = 1 then (if M (263 + a) = M (263 + b) then decide (M (247 + a) < M (247 + b)) else decide (M (263 + a) < M (263 + b)))
  else !decide (M (247 + a) < M (247 + b))
def soonB (M : Nat → Int32) (bd : Bool) (a b : Nat) : Bool :=
  if bd = true ∧ M (231 + a) ≠ M (231 + b) then decide (M (231 + a) < M (231 + b)) else aheadB M a b
def uG (g : Nat → Nat) (k v : Nat) : Nat → Nat := fun j => if j = k then v else g j
/-- t takes its place among the first k -/
def qG (ah : Nat → Nat → Bool) (t : Nat) : Nat → (Nat → Nat) → (Nat → Nat)
  | 0, g => uG g 0 t
  | k + 1, g => if ah t (g k) = true then qG ah t k (uG g (k + 1) (g k)) else uG g (k + 1) t
theorem qG_lt {ah : Nat → Nat → Bool} {t N : Nat} (ht : t < N) : ∀ (k n : Nat) (g : Nat → Nat), k ≤ n → (∀ j, j < n + 1 → j ≠ k → g j < N) → ∀ j, j < n + 1 → qG ah t k g j < N
  | 0, n, g, _, h, j, hj => by
    unfold qG uG
    split
    · exact ht
    · exact h j hj (by assumption)
  | k + 1, n, g, hk, h, j, hj => by
    unfold qG
    split
    · refine qG_lt ht k n _ (by omega) (fun i hi hik => ?_) j hj
      unfold uG
      split
      · exact h k (by omega) (by omega)
      · exact h i hi (by omega)
    · unfold uG
      split
      · exact ht
      · exact h j hj (by assumption)
/-- the line's row and how many -/
def sLn (σ : Mm) (f : Nat → Int32) (n : Nat) : Mm := (fun a j => if a = 71 then f j else if a = 67 ∧ j = 10 then nI n else σ.1 a j, σ.2)
theorem sLn_sLn (σ : Mm) (f f' : Nat → Int32) (n n' : Nat) : sLn (sLn σ f n) f' n' = sLn σ f' n' := by
  refine Prod.ext (funext fun a => funext fun j => ?_) rfl
  simp only [sLn]
  split
  · rfl
  · split <;> rfl
theorem sLn_of {σ : Mm} {n : Nat} (h : σ.1 67 10 = nI n) : sLn σ (σ.1 71) n = σ := by
  refine Prod.ext (funext fun a => funext fun j => ?_) rfl
  simp only [sLn]
  split
  · next q => rw [q]
  · split
    · next q => rw [q.1, q.2, h]
    · rfl
theorem wI_sLn71 {σ : Mm} {f : Nat → Int32} {n k : Nat} {v : Int32} : wI (sLn σ f n) 71 k v = sLn σ (upd f k v) n := by
  refine Prod.ext (funext fun a => funext fun j => ?_) rfl
  simp only [sLn, wI, up2, upd]
  by_cases h : a = 71
  · subst h; simp
  · simp [h]
theorem wI_sLn10 {σ : Mm} {f : Nat → Int32} {n : Nat} {m : Nat} : wI (sLn σ f n) 67 10 (nI m) = sLn σ f m := by
  refine Prod.ext (funext fun a => funext fun j => ?_) rfl
  simp only [sLn, wI, up2]
  by_cases h : a = 71
  · subst h; simp
  · by_cases h2 : a = 67 ∧ j = 10
    · simp [h2]
    · simp [h, h2]
def layAllM (M : Nat → Int32) (L : Nat) : Nat → Int32 := itr (fun t M => if isG M t then layM M L t else M) 0 16 M
def mov1M (M : Nat → Int32) (L t : Nat) : Nat → Int32 := uM (layM M L t) 8 (layM M L t 8 + 1)
theorem layM_ne {M : Nat → Int32} {L t j : Nat} (h : j < 391) : layM M L t j = M j := by
  unfold layM
  rw [uM_ne _ _ (by omega), uM_ne _ _ (by omega)]
theorem mov1M_ne {M : Nat → Int32} {L t j : Nat} (h : j < 391) (h8 : j ≠ 8) : mov1M M L t j = M j := by
  unfold mov1M
  rw [uM_ne _ _ h8, layM_ne h]
theorem Wf_same {M M' : Nat → Int32} {L : Nat} (h : Wf M L) (he : ∀ j, j < 5 → M' j = M j) : Wf M' L := by
  obtain ⟨h1, h2, h3, h4⟩ := h
  exact ⟨(he 0 (by omega)).trans h1, h2, h3, fun k hk => by rw [he (1 + k) (by omega)]; exact h4 k hk⟩
theorem Wf_lay {M : Nat → Int32} {L t : Nat} (h : Wf M L) : Wf (layM M L t) L := Wf_same h (fun j hj => layM_ne (by omega))
theorem Wf_mov1 {M : Nat → Int32} {L t : Nat} (h : Wf M L) : Wf (mov1M M L t) L := Wf_same h (fun j hj => mov1M_ne (by omega) (by omega))
end
section
set_option maxRecDepth 20000 in
set_option maxHeartbeats 4000000 in
theorem c9_moves1 {w : Wp} (hf : Fit sh0 w) {σ : Mm} {d : Nat} {M : Nat → Int32} (hd : σ.1 67 8 = nI d) (hd4 : d ≤ 423) {L : Nat} (hW : Wf M L) {k : Int32} {i : Nat} (hk : k = nI i) (hi : i < 16) : Cf sh0 w 4 mX9_moves1 [.ref 67, .int k] (sM σ d M) none (sM σ d (mov1M M L i)) := by
  refine Ct_of hf (by decide) rfl (Nat.le_of_ble_eq_true rfl) (fun x o rt => ?_)
  subst hk
  refine V_aload_n o dX9_moves1_0 rfl rfl ?_
  refine V_iload_n o dX9_moves1_1 rfl rfl ?_
  refine V_cVv o rt dX9_moves1_2 ml_X9_102 (c9_lays hf hd hd4 hW rfl (by omega)) rfl rfl rfl (Nat.le_of_ble_eq_true rfl) rfl ?_
  refine V_aload_n o dX9_moves1_5 rfl rfl ?_
  refine V_bipush (v := 8) o dX9_moves1_6 (by decide) ?_
  refine V_iconst (v := 1) o dX9_moves1_8 (by decide) ?_
  refine V_cVv o rt dX9_moves1_9 ml_X9_106 (c9_more hf hd (show (8 : Int32) = nI 8 from rfl) (by omega)) rfl rfl rfl (Nat.le_of_ble_eq_true rfl) rfl ?_
  refine V_ret o rt dX9_moves1_12 rfl ?_
  exact ⟨rfl, rfl⟩
set_option maxRecDepth 20000 in
set_option maxHeartbeats 4000000 in
theorem c9_laysAll {w : Wp} (hf : Fit sh0 w) {σ : Mm} {d : Nat} {M : Nat → Int32} (hd : σ.1 67 8 = nI d) (hd4 : d ≤ 423) {L : Nat} (hW : Wf M L) : Cf sh0 w 4 mX9_laysAll [.ref 67] (sM σ d M) none (sM σ d (layAllM M L)) := by
  refine Ct_of hf (by decide) rfl (Nat.le_of_ble_eq_true rfl) (fun x o rt => ?_)
  have loop : ∀ n i (M' : Nat → Int32), i + n = 16 → Wf M' L → itr (fun t M => if isG M t then layM M L t else M) i n M' = layAllM M L → V sh0 w x mX9_laysAll (0, 0) 2 [(1, .int (nI i)), (0, .ref 67)] [] (sM σ d M') := by
    intro n
    induction n with
    | zero =>
      intro i M' hin hW hR
      have hi : i = 16 := by omega
      refine V_iload_n o dX9_laysAll_2 rfl rfl ?_
      refine V_bipush (v := 16) o dX9_laysAll_3 (by decide) ?_
      refine V_icmp_ge (tgt := 27) o dX9_laysAll_5 (by decide) (fun c_5 => ?_) (fun c_5 => False.elim (c_5 (by rw [hi]; exact nI_le (Nat.le_refl 16) (by omega))))
      refine V_ret o rt dX9_laysAll_27 rfl ?_
      exact ⟨rfl, by rw [← hR]; rfl⟩
    | succ n ih =>
      intro i M' hin hW hR
      rw [itr_succ] at hR
      refine V_iload_n o dX9_laysAll_2 rfl rfl ?_
      refine V_bipush (v := 16) o dX9_laysAll_3 (by decide) ?_
      refine V_icmp_ge (tgt := 27) o dX9_laysAll_5 (by decide) (fun c_5 => False.elim (absurd c_5 (nI_ge (b := 16) (by omega) (by omega)))) (fun c_5 => ?_)
      refine V_aload_n o dX9_laysAll_8 rfl rfl ?_
      refine V_iload_n o dX9_laysAll_9 rfl rfl ?_
      refine V_cVi o rt dX9_laysAll_10 ml_X9_99 (c9_goes hf hd hd4 rfl (by omega)) rfl rfl rfl (Nat.le_of_ble_eq_true rfl) rfl ?_
      refine V_if_eq (tgt := 21) o dX9_laysAll_13 (by decide) (fun c_13 => ?_) (fun c_13 => ?_)
      · refine V_iincV (v := nI (i + 1)) (ls' := [(1, _), (0, _)]) o dX9_laysAll_21 rfl (ninc 1 rfl) (by decide) rfl ?_
        refine V_goto (tgt := 2) o dX9_laysAll_24 (by decide) ?_
        first | exact ih (i + 1) _ (by omega) hW (by rw [if_neg (bz_0.mp c_13)] at hR; exact hR) | exact ih (i + 1) _ (by omega) (Wf_lay hW) (by rw [if_pos (bz_n0.mp c_13)] at hR; exact hR)
      · refine V_aload_n o dX9_laysAll_16 rfl rfl ?_
        refine V_iload_n o dX9_laysAll_17 rfl rfl ?_
        refine V_cVv o rt dX9_laysAll_18 ml_X9_102 (c9_lays hf hd hd4 hW rfl (by omega)) rfl rfl rfl (Nat.le_of_ble_eq_true rfl) rfl ?_
        refine V_iincV (v := nI (i + 1)) (ls' := [(1, _), (0, _)]) o dX9_laysAll_21 rfl (ninc 1 rfl) (by decide) rfl ?_
        refine V_goto (tgt := 2) o dX9_laysAll_24 (by decide) ?_
        first | exact ih (i + 1) _ (by omega) hW (by rw [if_neg (bz_0.mp c_13)] at hR; exact hR) | exact ih (i + 1) _ (by omega) (Wf_lay hW) (by rw [if_pos (bz_n0.mp c_13)] at hR; exact hR)
  refine V_iconst (v := 0) o dX9_laysAll_0 (by decide) ?_
  refine V_istore_n (ls' := [(1, _), (0, _)]) o dX9_laysAll_1 rfl (by decide) rfl ?_
  exact loop 16 0 M (by omega) hW rfl
theorem i32_toInt_ne {a : Int32} {n : Int} {v : Int32} (h : ¬ a = v) (hv : v.toInt = n) : ¬ a.toInt = n := fun q => h (Int32.toInt_inj.mp (q.trans hv.symm))
theorem lk2 {a : Int32} (h0 : ¬ a = 0) (h1 : ¬ a = 1) : Op.lookupswitch.offset (#[((0 : Int), (28 : Int)), (1, 30)] : Array (Int × Int)).toList 82 a.toInt = 82 := by
  have g0 := i32_toInt_ne (n := 0) h0 (by decide)
  have g1 := i32_toInt_ne (n := 1) h1 (by decide)
  simp [Op.lookupswitch.offset, g0, g1, Ne.symm g0, Ne.symm g1]
set_option maxRecDepth 20000 in
set_option maxHeartbeats 4000000 in
theorem c9_isAhead {w : Wp} (hf : Fit sh0 w) {σ : Mm} {d : Nat} {M : Nat → Int32} (hd : σ.1 67 8 = nI d) (hd4 : d ≤ 423) {k k2 : Int32} {a b : Nat} (hk : k = nI a) (ha : a < 16) (hk2 : k2 = nI b) (hb : b < 16) : Cf sh0 w 1 mX9_isAhead [.ref 67, .int k, .int k2] (sM σ d M) (some (.int (bz (aheadB M a b = true)))) (sM σ d M) := by
  refine Ct_of hf (by decide) rfl (Nat.le_of_ble_eq_true rfl) (fun x o rt => ?_)
  subst hk
  subst hk2
  refine V_aload_n o dX9_isAhead_0 rfl rfl ?_
  refine V_sipush (v := 247) o dX9_isAhead_1 (by decide) ?_
  refine V_iload_n o dX9_isAhead_4 rfl rfl ?_
  refine V_iadd o dX9_isAhead_5 ?_
  refine V_cVi o rt dX9_isAhead_6 ml_X9_85 (c9_of hf hd (nadd (show (247 : Int32) = nI 247 from rfl) rfl) (by omega)) rfl rfl rfl (Nat.le_of_ble_eq_true rfl) rfl ?_
  refine V_aload_n o dX9_isAhead_9 rfl rfl ?_
  refine V_sipush (v := 247) o dX9_isAhead_10 (by decide) ?_
  refine V_iload_n o dX9_isAhead_13 rfl rfl ?_
  refine V_iadd o dX9_isAhead_14 ?_
  refine V_cVi o rt dX9_isAhead_15 ml_X9_85 (c9_of hf hd (nadd (show (247 : Int32) = nI 247 from rfl) rfl) (by omega)) rfl rfl rfl (Nat.le_of_ble_eq_true rfl) rfl ?_
  refine V_icmp_ge (tgt := 25) o dX9_isAhead_18 (by decide) (fun c_18 => ?_) (fun c_18 => ?_)
  · refine V_iconst (v := 0) o dX9_isAhead_25 (by decide) ?_
    refine V_istore_n (ls' := [(3, _), (0, _), (1, _), (2, _)]) o dX9_isAhead_26 rfl (by decide) rfl ?_
    refine V_aload_n o dX9_isAhead_27 rfl rfl ?_
    refine V_iconst (v := 5) o dX9_isAhead_28 (by decide) ?_
    refine V_cVi o rt dX9_isAhead_29 ml_X9_85 (c9_of hf hd (show (5 : Int32) = nI 5 from rfl) (by omega)) rfl rfl rfl (Nat.le_of_ble_eq_true rfl) rfl ?_
    by_cases h5 : M 5 = 0
    · refine V_lookup (off := 28) (tgt := 60) o dX9_isAhead_32 (by decide) (by rw [h5]; decide) (by decide) ?_
      refine V_iload_n o dX9_isAhead_60 rfl rfl ?_
      refine V_iret o rt dX9_isAhead_61 rfl (by first | rfl | exact bz_z) ?_
      refine ⟨?_, rfl⟩
      simp only [aheadB, bz]
      simp_all [Int32.not_lt, Int32.not_le]
    · by_cases h51 : M 5 = 1
      · refine V_lookup (off := 30) (tgt := 62) o dX9_isAhead_32 (by decide) (by rw [h51]; decide) (by decide) ?_
        refine V_aload_n o dX9_isAhead_62 rfl rfl ?_
        refine V_sipush (v := 263) o dX9_isAhead_63 (by decide) ?_
        refine V_iload_n o dX9_isAhead_66 rfl rfl ?_
        refine V_iadd o dX9_isAhead_67 ?_
        refine V_cVi o rt dX9_isAhead_68 ml_X9_85 (c9_of hf hd (nadd (show (263 : Int32) = nI 263 from rfl) rfl) (by omega)) rfl rfl rfl (Nat.le_of_ble_eq_true rfl) rfl ?_
        refine V_aload_n o dX9_isAhead_71 rfl rfl ?_
        refine V_sipush (v := 263) o dX9_isAhead_72 (by decide) ?_
        refine V_iload_n o dX9_isAhead_75 rfl rfl ?_
        refine V_iadd o dX9_isAhead_76 ?_
        refine V_cVi o rt dX9_isAhead_77 ml_X9_85 (c9_of hf hd (nadd (show (263 : Int32) = nI 263 from rfl) rfl) (by omega)) rfl rfl rfl (Nat.le_of_ble_eq_true rfl) rfl ?_
        refine V_icmp_ne (tgt := 87) o dX9_isAhead_80 (by decide) (fun c_80 => ?_) (fun c_80 => ?_)
        · refine V_aload_n o dX9_isAhead_87 rfl rfl ?_
          refine V_sipush (v := 263) o dX9_isAhead_88 (by decide) ?_
          refine V_iload_n o dX9_isAhead_91 rfl rfl ?_
          refine V_iadd o dX9_isAhead_92 ?_
          refine V_cVi o rt dX9_isAhead_93 ml_X9_85 (c9_of hf hd (nadd (show (263 : Int32) = nI 263 from rfl) rfl) (by omega)) rfl rfl rfl (Nat.le_of_ble_eq_true rfl) rfl ?_
          refine V_aload_n o dX9_isAhead_96 rfl rfl ?_
          refine V_sipush (v := 263) o dX9_isAhead_97 (by decide) ?_
          refine V_iload_n o dX9_isAhead_100 rfl rfl ?_
          refine V_iadd o dX9_isAhead_101 ?_
          refine V_cVi o rt dX9_isAhead_102 ml_X9_85 (c9_of hf hd (nadd (show (263 : Int32) = nI 263 from rfl) rfl) (by omega)) rfl rfl rfl (Nat.le_of_ble_eq_true rfl) rfl ?_
          refine V_icmp_ge (tgt := 112) o dX9_isAhead_105 (by decide) (fun c_105 => ?_) (fun c_105 => ?_)
          · refine V_iconst (v := 0) o dX9_isAhead_112 (by decide) ?_
            refine V_iret o rt dX9_isAhead_113 rfl (by first | rfl | exact bz_z) ?_
            refine ⟨?_, rfl⟩
            simp only [aheadB, bz]
            simp_all [Int32.not_lt, Int32.not_le]
          · refine V_iconst (v := 1) o dX9_isAhead_108 (by decide) ?_
            refine V_goto (tgt := 113) o dX9_isAhead_109 (by decide) ?_
            refine V_iret o rt dX9_isAhead_113 rfl (by first | rfl | exact bz_z) ?_
            refine ⟨?_, rfl⟩
            simp only [aheadB, bz]
            simp_all [Int32.not_lt, Int32.not_le]
        · refine V_iload_n o dX9_isAhead_83 rfl rfl ?_
          refine V_goto (tgt := 113) o dX9_isAhead_84 (by decide) ?_
          refine V_iret o rt dX9_isAhead_113 rfl (by first | rfl | exact bz_z) ?_
          refine ⟨?_, rfl⟩
          simp only [aheadB, bz]
          simp_all [Int32.not_lt, Int32.not_le]
      · refine V_lookup (off := 82) (tgt := 114) o dX9_isAhead_32 (by decide) (lk2 h5 h51) (by decide) ?_
        refine V_iload_n o dX9_isAhead_114 rfl rfl ?_
        refine V_if_ne (tgt := 122) o dX9_isAhead_115 (by decide) (fun c_115 => ?_) (fun c_115 => ?_)
        · refine V_iconst (v := 0) o dX9_isAhead_122 (by decide) ?_
          refine V_iret o rt dX9_isAhead_123 rfl (by first | rfl | exact bz_z) ?_
          refine ⟨?_, rfl⟩
          simp only [aheadB, bz]
          simp_all [Int32.not_lt, Int32.not_le]
        · refine V_iconst (v := 1) o dX9_isAhead_118 (by decide) ?_
          refine V_goto (tgt := 123) o dX9_isAhead_119 (by decide) ?_
          refine V_iret o rt dX9_isAhead_123 rfl (by first | rfl | exact bz_z) ?_
          refine ⟨?_, rfl⟩
          simp only [aheadB, bz]
          simp_all [Int32.not_lt, Int32.not_le]
  · refine V_iconst (v := 1) o dX9_isAhead_21 (by decide) ?_
    refine V_goto (tgt := 26) o dX9_isAhead_22 (by decide) ?_
    refine V_istore_n (ls' := [(3, _), (0, _), (1, _), (2, _)]) o dX9_isAhead_26 rfl (by decide) rfl ?_
    refine V_aload_n o dX9_isAhead_27 rfl rfl ?_
    refine V_iconst (v := 5) o dX9_isAhead_28 (by decide) ?_
    refine V_cVi o rt dX9_isAhead_29 ml_X9_85 (c9_of hf hd (show (5 : Int32) = nI 5 from rfl) (by omega)) rfl rfl rfl (Nat.le_of_ble_eq_true rfl) rfl ?_
    by_cases h5 : M 5 = 0
    · refine V_lookup (off := 28) (tgt := 60) o dX9_isAhead_32 (by decide) (by rw [h5]; decide) (by decide) ?_
      refine V_iload_n o dX9_isAhead_60 rfl rfl ?_
      refine V_iret o rt dX9_isAhead_61 rfl (by first | rfl | exact bz_z) ?_
      refine ⟨?_, rfl⟩
      simp only [aheadB, bz]
      simp_all [Int32.not_lt, Int32.not_le]
    · by_cases h51 : M 5 = 1
      · refine V_lookup (off := 30) (tgt := 62) o dX9_isAhead_32 (by decide) (by rw [h51]; decide) (by decide) ?_
        refine V_aload_n o dX9_isAhead_62 rfl rfl ?_
        refine V_sipush (v := 263) o dX9_isAhead_63 (by decide) ?_
        refine V_iload_n o dX9_isAhead_66 rfl rfl ?_
        refine V_iadd o dX9_isAhead_67 ?_
        refine V_cVi o rt dX9_isAhead_68 ml_X9_85 (c9_of hf hd (nadd (show (263 : Int32) = nI 263 from rfl) rfl) (by omega)) rfl rfl rfl (Nat.le_of_ble_eq_true rfl) rfl ?_
        refine V_aload_n o dX9_isAhead_71 rfl rfl ?_
        refine V_sipush (v := 263) o dX9_isAhead_72 (by decide) ?_
        refine V_iload_n o dX9_isAhead_75 rfl rfl ?_
        refine V_iadd o dX9_isAhead_76 ?_
        refine V_cVi o rt dX9_isAhead_77 ml_X9_85 (c9_of hf hd (nadd (show (263 : Int32) = nI 263 from rfl) rfl) (by omega)) rfl rfl rfl (Nat.le_of_ble_eq_true rfl) rfl ?_
        refine V_icmp_ne (tgt := 87) o dX9_isAhead_80 (by decide) (fun c_80 => ?_) (fun c_80 => ?_)
        · refine V_aload_n o dX9_isAhead_87 rfl rfl ?_
          refine V_sipush (v := 263) o dX9_isAhead_88 (by decide) ?_
          refine V_iload_n o dX9_isAhead_91 rfl rfl ?_
          refine V_iadd o dX9_isAhead_92 ?_
          refine V_cVi o rt dX9_isAhead_93 ml_X9_85 (c9_of hf hd (nadd (show (263 : Int32) = nI 263 from rfl) rfl) (by omega)) rfl rfl rfl (Nat.le_of_ble_eq_true rfl) rfl ?_
          refine V_aload_n o dX9_isAhead_96 rfl rfl ?_
          refine V_sipush (v := 263) o dX9_isAhead_97 (by decide) ?_
          refine V_iload_n o dX9_isAhead_100 rfl rfl ?_
          refine V_iadd o dX9_isAhead_101 ?_
          refine V_cVi o rt dX9_isAhead_102 ml_X9_85 (c9_of hf hd (nadd (show (263 : Int32) = nI 263 from rfl) rfl) (by omega)) rfl rfl rfl (Nat.le_of_ble_eq_true rfl) rfl ?_
          refine V_icmp_ge (tgt := 112) o dX9_isAhead_105 (by decide) (fun c_105 => ?_) (fun c_105 => ?_)
          · refine V_iconst (v := 0) o dX9_isAhead_112 (by decide) ?_
            refine V_iret o rt dX9_isAhead_113 rfl (by first | rfl | exact bz_z) ?_
            refine ⟨?_, rfl⟩
            simp only [aheadB, bz]
            simp_all [Int32.not_lt, Int32.not_le]
          · refine V_iconst (v := 1) o dX9_isAhead_108 (by decide) ?_
            refine V_goto (tgt := 113) o dX9_isAhead_109 (by decide) ?_
            refine V_iret o rt dX9_isAhead_113 rfl (by first | rfl | exact bz_z) ?_
            refine ⟨?_, rfl⟩
            simp only [aheadB, bz]
            simp_all [Int32.not_lt, Int32.not_le]
        · refine V_iload_n o dX9_isAhead_83 rfl rfl ?_
          refine V_goto (tgt := 113) o dX9_isAhead_84 (by decide) ?_
          refine V_iret o rt dX9_isAhead_113 rfl (by first | rfl | exact bz_z) ?_
          refine ⟨?_, rfl⟩
          simp only [aheadB, bz]
          simp_all [Int32.not_lt, Int32.not_le]
      · refine V_lookup (off := 82) (tgt := 114) o dX9_isAhead_32 (by decide) (lk2 h5 h51) (by decide) ?_
        refine V_iload_n o dX9_isAhead_114 rfl rfl ?_
        refine V_if_ne (tgt := 122) o dX9_isAhead_115 (by decide) (fun c_115 => ?_) (fun c_115 => ?_)
        · refine V_iconst (v := 0) o dX9_isAhead_122 (by decide) ?_
          refine V_iret o rt dX9_isAhead_123 rfl (by first | rfl | exact bz_z) ?_
          refine ⟨?_, rfl⟩
          simp only [aheadB, bz]
          simp_all [Int32.not_lt, Int32.not_le]
        · refine V_iconst (v := 1) o dX9_isAhead_118 (by decide) ?_
          refine V_goto (tgt := 123) o dX9_isAhead_119 (by decide) ?_
          refine V_iret o rt dX9_isAhead_123 rfl (by first | rfl | exact bz_z) ?_
          refine ⟨?_, rfl⟩
          simp only [aheadB, bz]
          simp_all [Int32.not_lt, Int32.not_le]
set_option maxRecDepth 20000 in
set_option maxHeartbeats 4000000 in
theorem c9_isSooner {w : Wp} (hf : Fit sh0 w) {σ : Mm} {d : Nat} {M : Nat → Int32} (hd : σ.1 67 8 = nI d) (hd4 : d ≤ 423) {k k2 bd : Int32} {a b : Nat} (hk : k = nI a) (ha : a < 16) (hk2 : k2 = nI b) (hb : b < 16) (B : Bool) (hB : bd = bz (B = true)) : Cf sh0 w 2 mX9_isSooner [.ref 67, .int k, .int k2, .int bd] (sM σ d M) (some (.int (bz (soonB M B a b = true)))) (sM σ d M) := by
  refine Ct_of hf (by decide) rfl (Nat.le_of_ble_eq_true rfl) (fun x o rt => ?_)
  subst hk
  subst hk2
  subst hB
  refine V_iload_n o dX9_isSooner_0 rfl rfl ?_
  refine V_if_eq (tgt := 52) o dX9_isSooner_1 (by decide) (fun c_1 => ?_) (fun c_1 => ?_)
  · refine V_aload_n o dX9_isSooner_52 rfl rfl ?_
    refine V_iload_n o dX9_isSooner_53 rfl rfl ?_
    refine V_iload_n o dX9_isSooner_54 rfl rfl ?_
    refine V_cVi o rt dX9_isSooner_55 ml_X9_116 (c9_isAhead hf hd hd4 rfl ha rfl hb) rfl rfl rfl (Nat.le_of_ble_eq_true rfl) rfl ?_
    refine V_iret o rt dX9_isSooner_58 rfl (by first | rfl | exact bz_z) ?_
    refine ⟨?_, rfl⟩
    simp only [soonB]
    simp only [bz_0, bz_n0] at c_1
    simp_all [bz, Int32.not_lt, Int32.not_le]
  · refine V_aload_n o dX9_isSooner_4 rfl rfl ?_
    refine V_sipush (v := 231) o dX9_isSooner_5 (by decide) ?_
    refine V_iload_n o dX9_isSooner_8 rfl rfl ?_
    refine V_iadd o dX9_isSooner_9 ?_
    refine V_cVi o rt dX9_isSooner_10 ml_X9_85 (c9_of hf hd (nadd (show (231 : Int32) = nI 231 from rfl) rfl) (by omega)) rfl rfl rfl (Nat.le_of_ble_eq_true rfl) rfl ?_
    refine V_aload_n o dX9_isSooner_13 rfl rfl ?_
    refine V_sipush (v := 231) o dX9_isSooner_14 (by decide) ?_
    refine V_iload_n o dX9_isSooner_17 rfl rfl ?_
    refine V_iadd o dX9_isSooner_18 ?_
    refine V_cVi o rt dX9_isSooner_19 ml_X9_85 (c9_of hf hd (nadd (show (231 : Int32) = nI 231 from rfl) rfl) (by omega)) rfl rfl rfl (Nat.le_of_ble_eq_true rfl) rfl ?_
    refine V_icmp_eq (tgt := 52) o dX9_isSooner_22 (by decide) (fun c_22 => ?_) (fun c_22 => ?_)
    · refine V_aload_n o dX9_isSooner_52 rfl rfl ?_
      refine V_iload_n o dX9_isSooner_53 rfl rfl ?_
      refine V_iload_n o dX9_isSooner_54 rfl rfl ?_
      refine V_cVi o rt dX9_isSooner_55 ml_X9_116 (c9_isAhead hf hd hd4 rfl ha rfl hb) rfl rfl rfl (Nat.le_of_ble_eq_true rfl) rfl ?_
      refine V_iret o rt dX9_isSooner_58 rfl (by first | rfl | exact bz_z) ?_
      refine ⟨?_, rfl⟩
      simp only [soonB]
      simp only [bz_0, bz_n0] at c_1
      simp_all [bz, Int32.not_lt, Int32.not_le]
    · refine V_aload_n o dX9_isSooner_25 rfl rfl ?_
      refine V_sipush (v := 231) o dX9_isSooner_26 (by decide) ?_
      refine V_iload_n o dX9_isSooner_29 rfl rfl ?_
      refine V_iadd o dX9_isSooner_30 ?_
      refine V_cVi o rt dX9_isSooner_31 ml_X9_85 (c9_of hf hd (nadd (show (231 : Int32) = nI 231 from rfl) rfl) (by omega)) rfl rfl rfl (Nat.le_of_ble_eq_true rfl) rfl ?_
      refine V_aload_n o dX9_isSooner_34 rfl rfl ?_
      refine V_sipush (v := 231) o dX9_isSooner_35 (by decide) ?_
      refine V_iload_n o dX9_isSooner_38 rfl rfl ?_
      refine V_iadd o dX9_isSooner_39 ?_
      refine V_cVi o rt dX9_isSooner_40 ml_X9_85 (c9_of hf hd (nadd (show (231 : Int32) = nI 231 from rfl) rfl) (by omega)) rfl rfl rfl (Nat.le_of_ble_eq_true rfl) rfl ?_
      refine V_icmp_ge (tgt := 50) o dX9_isSooner_43 (by decide) (fun c_43 => ?_) (fun c_43 => ?_)
      · refine V_iconst (v := 0) o dX9_isSooner_50 (by decide) ?_
        refine V_iret o rt dX9_isSooner_51 rfl (by first | rfl | exact bz_z) ?_
        refine ⟨?_, rfl⟩
        simp only [soonB]
        simp only [bz_0, bz_n0] at c_1
        simp_all [bz, Int32.not_lt, Int32.not_le]
      · refine V_iconst (v := 1) o dX9_isSooner_46 (by decide) ?_
        refine V_goto (tgt := 51) o dX9_isSooner_47 (by decide) ?_
        refine V_iret o rt dX9_isSooner_51 rfl (by first | rfl | exact bz_z) ?_
        refine ⟨?_, rfl⟩
        simp only [soonB]
        simp only [bz_0, bz_n0] at c_1
        simp_all [bz, Int32.not_lt, Int32.not_le]
end
